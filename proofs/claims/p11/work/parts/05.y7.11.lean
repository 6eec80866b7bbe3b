section
theorem cd_X2_dropUnreached : Cond.code yX2_dropUnreached cX2_dropUnreached 4 (some .int) ∈ pWW := pw4 (List.mem_of_getElem? (i := 237) rfl) rfl
abbrev m_X2_dropUnreached : MT := (yX2_dropUnreached, cX2_dropUnreached, 4, (some .int))
theorem ok_X2_dropUnreached : pOk m_X2_dropUnreached := ⟨⟨cd_X2_dropUnreached, ini_2⟩, by decide +kernel, ⟨by decide +kernel, by decide +kernel⟩, Nat.le_of_ble_eq_true rfl⟩
theorem np_X2_dropUnreached : (parseMethodDescriptor yX2_dropUnreached.desc).map (fun d => d.parameters.length) = some 1 := by decide +kernel
theorem im_X2_dropUnreached : Cond.instanceMethod yX2_dropUnreached ∈ pWW := pw4 (List.mem_of_getElem? (i := 236) rfl) rfl
theorem se_X2_dropUnreached : Cond.selects RX2 yX2_dropUnreached yX2_dropUnreached ∈ pWW := pws (List.mem_map.mpr ⟨_, lw_pin 50 rfl, rfl⟩) rfl
theorem nl2_57 : (RX2, 57, yX11_isAct, "LineKeeper") ∈ nst_M := List.mem_of_getElem? (i := 23) rfl
theorem ml2_37 : Cond.methodLink RX2 37 yX1_removeRow ∈ pWW := pw5 (List.mem_of_getElem? (i := 20) rfl) rfl
theorem dX2_dropUnreached_0 : decode cX2_dropUnreached 0 = .ok (.aload_n 0, 1) := by decide +kernel
theorem dX2_dropUnreached_1 : decode cX2_dropUnreached 1 = .ok (.getfield 9, 3) := by decide +kernel
theorem dX2_dropUnreached_4 : decode cX2_dropUnreached 4 = .ok (.aload_n 1, 1) := by decide +kernel
theorem dX2_dropUnreached_5 : decode cX2_dropUnreached 5 = .ok (.iconst 0, 1) := by decide +kernel
theorem dX2_dropUnreached_6 : decode cX2_dropUnreached 6 = .ok (.iconst (-1), 1) := by decide +kernel
theorem dX2_dropUnreached_7 : decode cX2_dropUnreached 7 = .ok (.invokevirtual 41, 3) := by decide +kernel
theorem dX2_dropUnreached_10 : decode cX2_dropUnreached 10 = .ok (.iconst 0, 1) := by decide +kernel
theorem dX2_dropUnreached_11 : decode cX2_dropUnreached 11 = .ok (.istore_n 2, 1) := by decide +kernel
theorem dX2_dropUnreached_12 : decode cX2_dropUnreached 12 = .ok (.aload_n 1, 1) := by decide +kernel
theorem dX2_dropUnreached_13 : decode cX2_dropUnreached 13 = .ok (.getfield 45, 3) := by decide +kernel
theorem dX2_dropUnreached_16 : decode cX2_dropUnreached 16 = .ok (.iconst 1, 1) := by decide +kernel
theorem dX2_dropUnreached_17 : decode cX2_dropUnreached 17 = .ok (.isub, 1) := by decide +kernel
theorem dX2_dropUnreached_18 : decode cX2_dropUnreached 18 = .ok (.istore_n 3, 1) := by decide +kernel
theorem dX2_dropUnreached_19 : decode cX2_dropUnreached 19 = .ok (.iload_n 3, 1) := by decide +kernel
theorem dX2_dropUnreached_20 : decode cX2_dropUnreached 20 = .ok (.ifCond .lt 45, 3) := by decide +kernel
theorem dX2_dropUnreached_23 : decode cX2_dropUnreached 23 = .ok (.aload_n 0, 1) := by decide +kernel
theorem dX2_dropUnreached_24 : decode cX2_dropUnreached 24 = .ok (.getfield 9, 3) := by decide +kernel
theorem dX2_dropUnreached_27 : decode cX2_dropUnreached 27 = .ok (.iload_n 3, 1) := by decide +kernel
theorem dX2_dropUnreached_28 : decode cX2_dropUnreached 28 = .ok (.invokevirtual 49, 3) := by decide +kernel
theorem dX2_dropUnreached_31 : decode cX2_dropUnreached 31 = .ok (.ifCond .ne 28, 3) := by decide +kernel
theorem dX2_dropUnreached_59 : decode cX2_dropUnreached 59 = .ok (.iinc 3 (-1), 3) := by decide +kernel
theorem dX2_dropUnreached_62 : decode cX2_dropUnreached 62 = .ok (.goto (-43), 3) := by decide +kernel
theorem dX2_dropUnreached_34 : decode cX2_dropUnreached 34 = .ok (.iload_n 2, 1) := by decide +kernel
theorem dX2_dropUnreached_35 : decode cX2_dropUnreached 35 = .ok (.aload_n 1, 1) := by decide +kernel
theorem dX2_dropUnreached_36 : decode cX2_dropUnreached 36 = .ok (.iload_n 3, 1) := by decide +kernel
theorem dX2_dropUnreached_37 : decode cX2_dropUnreached 37 = .ok (.iconst 0, 1) := by decide +kernel
theorem dX2_dropUnreached_38 : decode cX2_dropUnreached 38 = .ok (.invokevirtual 53, 3) := by decide +kernel
theorem dX2_dropUnreached_41 : decode cX2_dropUnreached 41 = .ok (.invokestatic 57, 3) := by decide +kernel
theorem dX2_dropUnreached_44 : decode cX2_dropUnreached 44 = .ok (.ifCond .eq 7, 3) := by decide +kernel
theorem dX2_dropUnreached_51 : decode cX2_dropUnreached 51 = .ok (.iconst 0, 1) := by decide +kernel
theorem dX2_dropUnreached_52 : decode cX2_dropUnreached 52 = .ok (.iadd, 1) := by decide +kernel
theorem dX2_dropUnreached_53 : decode cX2_dropUnreached 53 = .ok (.istore_n 2, 1) := by decide +kernel
theorem dX2_dropUnreached_54 : decode cX2_dropUnreached 54 = .ok (.aload_n 1, 1) := by decide +kernel
theorem dX2_dropUnreached_55 : decode cX2_dropUnreached 55 = .ok (.iload_n 3, 1) := by decide +kernel
theorem dX2_dropUnreached_56 : decode cX2_dropUnreached 56 = .ok (.invokevirtual 37, 3) := by decide +kernel
theorem dX2_dropUnreached_47 : decode cX2_dropUnreached 47 = .ok (.iconst 1, 1) := by decide +kernel
theorem dX2_dropUnreached_48 : decode cX2_dropUnreached 48 = .ok (.goto 4, 3) := by decide +kernel
set_option maxRecDepth 20000 in
theorem l_X2_dropUnreached_19 (d : Nat) {T : CT} {σ0 : MS} {a : Nat} {rx1 : Nat} {post : Option Value → CT → MS → Prop} (h_a : OB T a 2) (h_rx1 : OB T rx1 1) (t_rx1 : (T rx1).1 = 50) (hw0 : WT T σ0) (hx_65 : ∀ (i2 : Int) (i3 : Int) (σ : MS) , (WT T σ) → (FrC T [6] σ0 σ) → (-2147483648 ≤ i2 ∧ i2 ≤ 2147483647) → (-1 ≤ i3 ∧ i3 ≤ 199) → Tn (d + 5) m_X2_dropUnreached 65 T σ [(0, .ref a), (1, .ref rx1), (2, .int (iI i2)), (3, .int (iI i3))] [] post) : ∀ (n : Nat) (i2 : Int) (i3 : Int) (σ : MS) , (WT T σ) → (FrC T [6] σ0 σ) → (-2147483648 ≤ i2 ∧ i2 ≤ 2147483647) → (-1 ≤ i3 ∧ i3 ≤ 199) → (i3 + 20).toNat = n → Tn (d + 5) m_X2_dropUnreached 19 T σ [(0, .ref a), (1, .ref rx1), (2, .int (iI i2)), (3, .int (iI i3))] [] post := by
  intro n
  induction n using Nat.strongRecOn with
  | _ n ih =>
    intro i2 i3 σ hw hF r_i2 r_i3 hm
    refine tn_iload_n dX2_dropUnreached_19 rfl 3 rfl ?_
    refine tn_if_lt (tgt := 65) dX2_dropUnreached_20 (by decide) ⟨by omega, by omega⟩ (fun h1 => ?_) (fun h1 => ?_)
    · exact tn_sub [0, 1, 2, 3] rfl (hx_65 (i2) (i3) σ hw (FrC.rfl.trans (FrC.sub hF (by decide))) (by omega) (by omega))
    · refine tn_aload_n dX2_dropUnreached_23 rfl 0 rfl ?_
      obtain ⟨x2, hx3, hk4⟩ : ∃ x : Nat, σ0.2.1 17 a = (x : Int) ∧ (T x).1 = 33 := wf_17 hw0 h_a
      have hk4o : OB T x2 3 := ⟨by omega, by rw [hk4]; rfl, by omega⟩
      refine tn_getR (ci := 2) (i := 0) (n := 17) (x := x2) dX2_dropUnreached_24 rfl lay_2 (by decide) fl2_9 h_a rfl rfl (rc_F hF (Or.inl (by decide)) (by decide) (hx3)) ?_
      refine tn_iload_n dX2_dropUnreached_27 rfl 3 rfl ?_
      refine tn_callV (M := m_X2_dropUnreached) (pc := 28) (ix := 49) (ci := 3) (M' := m_X3_isSeen) (As := [.int (iI i3)]) (rest := []) dX2_dropUnreached_28 ok_X3_isSeen im_X3_isSeen se_X3_isSeen ml2_49 np_X3_isSeen rfl rfl hk4o rfl (Nat.le_of_ble_eq_true rfl) (Nat.le_of_ble_eq_true rfl) rfl (k_X3_isSeen (d + 2) (T := T) (σ := σ) (a := x2) (p1 := i3) hk4o (by omega) hw ) (fun r6 T8 σ7 gt9 hp => ?_)
      obtain ⟨v11, rfl, rfl, rfl, f10⟩ := hp
      clear gt9
      show Tn _ _ 31 T σ [(0, .ref a), (1, .ref rx1), (2, .int (iI i2)), (3, .int (iI i3))] [.int (iI v11)] _
      refine tn_if_ne (tgt := 59) dX2_dropUnreached_31 (by decide) ⟨by omega, by omega⟩ (fun h12 => ?_) (fun h12 => ?_)
      · refine tn_iinc (q0 := 3) (L' := [(3, .int (iI (i3 + (-1)))), (0, .ref a), (1, .ref rx1), (2, .int (iI i2))]) dX2_dropUnreached_59 rfl (by decide) rfl ?_
        refine tn_goto (tgt := 19) dX2_dropUnreached_62 (by decide) ?_
        exact tn_sub [1, 2, 3, 0] rfl (ih _ (by omega) (i2) (i3 + (-1)) σ hw (FrC.rfl.trans (FrC.sub hF (by decide))) (by omega) (by omega) rfl)
      · refine tn_iload_n dX2_dropUnreached_34 rfl 2 rfl ?_
        refine tn_aload_n dX2_dropUnreached_35 rfl 1 rfl ?_
        refine tn_iload_n dX2_dropUnreached_36 rfl 3 rfl ?_
        refine tn_iconst dX2_dropUnreached_37 ?_
        refine tn_callV (M := m_X2_dropUnreached) (pc := 38) (ix := 53) (ci := 1) (M' := m_X1_get) (As := [.int (iI i3), .int (iI 0)]) (rest := [.int (iI i2)]) dX2_dropUnreached_38 ok_X1_get im_X1_get se_X1_get ml2_53 np_X1_get rfl rfl h_rx1 rfl (Nat.le_of_ble_eq_true rfl) (Nat.le_of_ble_eq_true rfl) rfl (k_X1_get (d + 3) (T := T) (σ := σ) (a := rx1) (k := i3) (c := 0) h_rx1 (by omega) (by decide) hw (by omega)) (fun r13 T15 σ14 gt16 hp => ?_)
        obtain ⟨v18, rfl, rfl, rfl, f17⟩ := hp
        clear gt16
        show Tn _ _ 41 T σ [(0, .ref a), (1, .ref rx1), (2, .int (iI i2)), (3, .int (iI i3))] [.int (iI v18), .int (iI i2)] _
        refine tn_callSN (M := m_X2_dropUnreached) (pc := 41) (ix := 57) (M' := m_X11_isAct) (As := [.int (iI v18)]) (rest := [.int (iI i2)]) dX2_dropUnreached_41 ok_X11_isAct stt_X11_isAct nl2_57 np_X11_isAct rfl (Nat.le_of_ble_eq_true rfl) (Nat.le_of_ble_eq_true rfl) rfl (k_X11_isAct (d + 3) (T := T) (σ := σ) (k := v18) (by omega) hw ) (fun r19 T21 σ20 gt22 hp => ?_)
        obtain ⟨v24, rfl, rfl, rfl, f23⟩ := hp
        clear gt22
        show Tn _ _ 44 T σ [(0, .ref a), (1, .ref rx1), (2, .int (iI i2)), (3, .int (iI i3))] [.int (iI v24), .int (iI i2)] _
        refine tn_if_eq (tgt := 51) dX2_dropUnreached_44 (by decide) ⟨by omega, by omega⟩ (fun h25 => ?_) (fun h25 => ?_)
        · refine tn_iconst dX2_dropUnreached_51 ?_
          refine tn_iadd dX2_dropUnreached_52 ?_
          refine tn_istore_n (L' := [(2, .int (iI (i2 + 0))), (0, .ref a), (1, .ref rx1), (3, .int (iI i3))]) dX2_dropUnreached_53 rfl (by decide) rfl ?_
          refine tn_aload_n dX2_dropUnreached_54 rfl 2 rfl ?_
          refine tn_iload_n dX2_dropUnreached_55 rfl 3 rfl ?_
          refine tn_callV (M := m_X2_dropUnreached) (pc := 56) (ix := 37) (ci := 1) (M' := m_X1_removeRow) (As := [.int (iI i3)]) (rest := []) dX2_dropUnreached_56 ok_X1_removeRow im_X1_removeRow se_X1_removeRow ml2_37 np_X1_removeRow rfl rfl h_rx1 rfl (Nat.le_of_ble_eq_true rfl) (Nat.le_of_ble_eq_true rfl) rfl (k_X1_removeRow (d + 3) (T := T) (σ := σ) (a := rx1) (k := i3) h_rx1 t_rx1 (by omega) hw ) (fun r26 T28 σ27 gt29 hp => ?_)
          obtain ⟨rfl, rfl, w31, F32⟩ := hp
          clear gt29
          show Tn _ _ 59 T σ27 [(2, .int (iI (i2 + 0))), (0, .ref a), (1, .ref rx1), (3, .int (iI i3))] [] _
          refine tn_iinc (q0 := 3) (L' := [(3, .int (iI (i3 + (-1)))), (2, .int (iI (i2 + 0))), (0, .ref a), (1, .ref rx1)]) dX2_dropUnreached_59 rfl (by decide) rfl ?_
          refine tn_goto (tgt := 19) dX2_dropUnreached_62 (by decide) ?_
          exact tn_sub [2, 3, 1, 0] rfl (ih _ (by omega) (i2 + 0) (i3 + (-1)) σ27 w31 ((FrC.rfl.trans (FrC.sub hF (by decide))).trans (FrC.sub F32 (by decide))) (by omega) (by omega) rfl)
        · refine tn_iconst dX2_dropUnreached_47 ?_
          refine tn_goto (tgt := 52) dX2_dropUnreached_48 (by decide) ?_
          refine tn_iadd dX2_dropUnreached_52 ?_
          refine tn_any (fun z33 g34 => ?_)
          have g34r : -2147483648 ≤ z33 ∧ z33 ≤ 2147483647 := g34
          refine tn_istore_n (L' := [(2, .int (iI z33)), (0, .ref a), (1, .ref rx1), (3, .int (iI i3))]) dX2_dropUnreached_53 rfl (by decide) rfl ?_
          refine tn_aload_n dX2_dropUnreached_54 rfl 2 rfl ?_
          refine tn_iload_n dX2_dropUnreached_55 rfl 3 rfl ?_
          refine tn_callV (M := m_X2_dropUnreached) (pc := 56) (ix := 37) (ci := 1) (M' := m_X1_removeRow) (As := [.int (iI i3)]) (rest := []) dX2_dropUnreached_56 ok_X1_removeRow im_X1_removeRow se_X1_removeRow ml2_37 np_X1_removeRow rfl rfl h_rx1 rfl (Nat.le_of_ble_eq_true rfl) (Nat.le_of_ble_eq_true rfl) rfl (k_X1_removeRow (d + 3) (T := T) (σ := σ) (a := rx1) (k := i3) h_rx1 t_rx1 (by omega) hw ) (fun r35 T37 σ36 gt38 hp => ?_)
          obtain ⟨rfl, rfl, w40, F41⟩ := hp
          clear gt38
          show Tn _ _ 59 T σ36 [(2, .int (iI z33)), (0, .ref a), (1, .ref rx1), (3, .int (iI i3))] [] _
          refine tn_iinc (q0 := 3) (L' := [(3, .int (iI (i3 + (-1)))), (2, .int (iI z33)), (0, .ref a), (1, .ref rx1)]) dX2_dropUnreached_59 rfl (by decide) rfl ?_
          refine tn_goto (tgt := 19) dX2_dropUnreached_62 (by decide) ?_
          exact tn_sub [2, 3, 1, 0] rfl (ih _ (by omega) (z33) (i3 + (-1)) σ36 w40 ((FrC.rfl.trans (FrC.sub hF (by decide))).trans (FrC.sub F41 (by decide))) (by omega) (by omega) rfl)
theorem dX2_dropUnreached_65 : decode cX2_dropUnreached 65 = .ok (.iload_n 2, 1) := by decide +kernel
theorem dX2_dropUnreached_66 : decode cX2_dropUnreached 66 = .ok (.ireturn, 1) := by decide +kernel
set_option maxRecDepth 20000 in
theorem k_X2_dropUnreached (d : Nat) {T : CT} {σ : MS} {a : Nat} {p1 : Nat} (ha : OB T a 2) (h_p1 : OB T p1 1) (t_p1 : (T p1).1 = 50) (hw : WT T σ) : Tn (d + 5) m_X2_dropUnreached 0 T σ [(0, .ref a), (1, .ref p1)] [] (fun ro T2 σ2 => ∃ v : Int, ro = some (.int (iI v)) ∧ T = T2 ∧ WT T2 σ2 ∧ FrC T [6, 22] σ σ2 ∧ (-2147483648 ≤ v ∧ v ≤ 2147483647)) := by
  refine tn_aload_n dX2_dropUnreached_0 rfl 0 rfl ?_
  obtain ⟨x1, hx2, hk3⟩ : ∃ x : Nat, σ.2.1 17 a = (x : Int) ∧ (T x).1 = 33 := wf_17 hw ha
  have hk3o : OB T x1 3 := ⟨by omega, by rw [hk3]; rfl, by omega⟩
  refine tn_getR (ci := 2) (i := 0) (n := 17) (x := x1) dX2_dropUnreached_1 rfl lay_2 (by decide) fl2_9 ha rfl rfl (hx2) ?_
  refine tn_aload_n dX2_dropUnreached_4 rfl 1 rfl ?_
  refine tn_iconst dX2_dropUnreached_5 ?_
  refine tn_iconst dX2_dropUnreached_6 ?_
  refine tn_callV (M := m_X2_dropUnreached) (pc := 7) (ix := 41) (ci := 3) (M' := m_X3_seeFrom) (As := [.ref p1, .int (iI 0), .int (iI (-1))]) (rest := []) dX2_dropUnreached_7 ok_X3_seeFrom im_X3_seeFrom se_X3_seeFrom ml2_41 np_X3_seeFrom rfl rfl hk3o rfl (Nat.le_of_ble_eq_true rfl) (Nat.le_of_ble_eq_true rfl) rfl (k_X3_seeFrom (d) (T := T) (σ := σ) (a := x1) (p1 := p1) (p2 := 0) (p3 := -1) hk3o h_p1 (by decide) (by decide) hw ) (fun r5 T7 σ6 gt8 hp => ?_)
  obtain ⟨rfl, rfl, w10, F11⟩ := hp
  clear gt8
  show Tn _ _ 10 T σ6 [(0, .ref a), (1, .ref p1)] [] _
  refine tn_iconst dX2_dropUnreached_10 ?_
  refine tn_istore_n (L' := [(2, .int (iI 0)), (0, .ref a), (1, .ref p1)]) dX2_dropUnreached_11 rfl (by decide) rfl ?_
  refine tn_aload_n dX2_dropUnreached_12 rfl 2 rfl ?_
  refine tn_getI (ci := 1) (i := 1) (n := 6) (t := σ.2.1 6 p1) dX2_dropUnreached_13 rfl lay_1 (by decide) fl2_45 h_p1 rfl rfl (rc_F F11 (Or.inl (by decide)) (by decide) (rfl)) ?_
  have g12 : ((0 : Int) ≤ σ.2.1 6 p1 ∧ σ.2.1 6 p1 ≤ 5000) ∧ ((T p1).1 = 50 → σ.2.1 6 p1 ≤ 200) := wf_6 hw h_p1
  have g12x := g12.2
  replace g12 := g12.1
  have g12x := g12x t_p1
  refine tn_iconst dX2_dropUnreached_16 ?_
  refine tn_isub dX2_dropUnreached_17 ?_
  refine tn_istore_n (L' := [(3, .int (iI ((σ.2.1 6 p1) - 1))), (2, .int (iI 0)), (0, .ref a), (1, .ref p1)]) dX2_dropUnreached_18 rfl (by decide) rfl ?_
  refine tn_sub [2, 3, 1, 0] rfl (l_X2_dropUnreached_19 (d) (T := T) (σ0 := σ6) (a := a) (rx1 := p1) ha h_p1 t_p1 w10 (fun i213 i314 σ15 w18 F19 r20 r21 => ?_) _ (0) ((σ.2.1 6 p1) - 1) σ6 w10 FrC.rfl (by omega) (by omega) rfl)
  show Tn _ _ 65 T σ15 [(0, .ref a), (1, .ref p1), (2, .int (iI i213)), (3, .int (iI i314))] [] _
  refine tn_iload_n dX2_dropUnreached_65 rfl 2 rfl ?_
  exact tn_iret rfl dX2_dropUnreached_66 ⟨_, rfl, rfl, w18, ((FrC.rfl.trans (FrC.sub F11 (by decide))).trans (FrC.sub F19 (by decide))), by omega⟩
end
section
theorem cd_X2_drop : Cond.code yX2_drop cX2_drop 5 (some .int) ∈ pWW := pw4 (List.mem_of_getElem? (i := 233) rfl) rfl
abbrev m_X2_drop : MT := (yX2_drop, cX2_drop, 5, (some .int))
theorem ok_X2_drop : pOk m_X2_drop := ⟨⟨cd_X2_drop, ini_2⟩, by decide +kernel, ⟨by decide +kernel, by decide +kernel⟩, Nat.le_of_ble_eq_true rfl⟩
theorem np_X2_drop : (parseMethodDescriptor yX2_drop.desc).map (fun d => d.parameters.length) = some 1 := by decide +kernel
theorem im_X2_drop : Cond.instanceMethod yX2_drop ∈ pWW := pw4 (List.mem_of_getElem? (i := 231) rfl) rfl
theorem se_X2_drop : Cond.selects RX2 yX2_drop yX2_drop ∈ pWW := pw4 (List.mem_of_getElem? (i := 232) rfl) rfl
theorem ml2_15 : Cond.methodLink RX2 15 yX2_dropUnreached ∈ pWW := pw4 (List.mem_of_getElem? (i := 234) rfl) rfl
theorem ml2_19 : Cond.methodLink RX2 19 yX1_link ∈ pWW := pw5 (List.mem_of_getElem? (i := 21) rfl) rfl
theorem ml2_24 : Cond.methodLink RX2 24 yX3_findLiving ∈ pWW := pw5 (List.mem_of_getElem? (i := 22) rfl) rfl
theorem ml2_30 : Cond.methodLink RX2 30 yX2_lastUnread ∈ pWW := pw5 (List.mem_of_getElem? (i := 59) rfl) rfl
theorem ml2_33 : Cond.methodLink RX2 33 yX2_loosenBinds ∈ pWW := pw5 (List.mem_of_getElem? (i := 71) rfl) rfl
theorem dX2_drop_0 : decode cX2_drop 0 = .ok (.aload_n 0, 1) := by decide +kernel
theorem dX2_drop_1 : decode cX2_drop 1 = .ok (.aload_n 1, 1) := by decide +kernel
theorem dX2_drop_2 : decode cX2_drop 2 = .ok (.invokevirtual 15, 3) := by decide +kernel
theorem dX2_drop_5 : decode cX2_drop 5 = .ok (.istore_n 2, 1) := by decide +kernel
theorem dX2_drop_6 : decode cX2_drop 6 = .ok (.aload_n 1, 1) := by decide +kernel
theorem dX2_drop_7 : decode cX2_drop 7 = .ok (.invokevirtual 19, 3) := by decide +kernel
theorem dX2_drop_10 : decode cX2_drop 10 = .ok (.iconst 0, 1) := by decide +kernel
theorem dX2_drop_11 : decode cX2_drop 11 = .ok (.istore_n 3, 1) := by decide +kernel
theorem dX2_drop_12 : decode cX2_drop 12 = .ok (.iload_n 3, 1) := by decide +kernel
theorem dX2_drop_13 : decode cX2_drop 13 = .ok (.sipush 200, 3) := by decide +kernel
theorem dX2_drop_16 : decode cX2_drop 16 = .ok (.if_icmp .ge 53, 3) := by decide +kernel
theorem dX2_drop_19 : decode cX2_drop 19 = .ok (.aload_n 0, 1) := by decide +kernel
theorem dX2_drop_20 : decode cX2_drop 20 = .ok (.getfield 9, 3) := by decide +kernel
theorem dX2_drop_23 : decode cX2_drop 23 = .ok (.aload_n 1, 1) := by decide +kernel
theorem dX2_drop_24 : decode cX2_drop 24 = .ok (.invokevirtual 24, 3) := by decide +kernel
theorem dX2_drop_27 : decode cX2_drop 27 = .ok (.aload_n 0, 1) := by decide +kernel
theorem dX2_drop_28 : decode cX2_drop 28 = .ok (.aload_n 1, 1) := by decide +kernel
theorem dX2_drop_29 : decode cX2_drop 29 = .ok (.invokevirtual 30, 3) := by decide +kernel
theorem dX2_drop_32 : decode cX2_drop 32 = .ok (.istore 4, 2) := by decide +kernel
theorem dX2_drop_34 : decode cX2_drop 34 = .ok (.iload 4, 2) := by decide +kernel
theorem dX2_drop_36 : decode cX2_drop 36 = .ok (.iconst (-1), 1) := by decide +kernel
theorem dX2_drop_37 : decode cX2_drop 37 = .ok (.if_icmp .ne 6, 3) := by decide +kernel
theorem dX2_drop_43 : decode cX2_drop 43 = .ok (.aload_n 0, 1) := by decide +kernel
theorem dX2_drop_44 : decode cX2_drop 44 = .ok (.aload_n 1, 1) := by decide +kernel
theorem dX2_drop_45 : decode cX2_drop 45 = .ok (.iload 4, 2) := by decide +kernel
theorem dX2_drop_47 : decode cX2_drop 47 = .ok (.invokevirtual 33, 3) := by decide +kernel
theorem dX2_drop_50 : decode cX2_drop 50 = .ok (.aload_n 1, 1) := by decide +kernel
theorem dX2_drop_51 : decode cX2_drop 51 = .ok (.iload 4, 2) := by decide +kernel
theorem dX2_drop_53 : decode cX2_drop 53 = .ok (.invokevirtual 37, 3) := by decide +kernel
theorem dX2_drop_56 : decode cX2_drop 56 = .ok (.aload_n 1, 1) := by decide +kernel
theorem dX2_drop_57 : decode cX2_drop 57 = .ok (.invokevirtual 19, 3) := by decide +kernel
theorem dX2_drop_60 : decode cX2_drop 60 = .ok (.iinc 2 1, 3) := by decide +kernel
theorem dX2_drop_63 : decode cX2_drop 63 = .ok (.iinc 3 1, 3) := by decide +kernel
theorem dX2_drop_66 : decode cX2_drop 66 = .ok (.goto (-54), 3) := by decide +kernel
set_option maxRecDepth 20000 in
theorem l_X2_drop_12 (d : Nat) {T : CT} {σ0 : MS} {a : Nat} {rx1 : Nat} {post : Option Value → CT → MS → Prop} (h_a : OB T a 2) (h_rx1 : OB T rx1 1) (t_rx1 : (T rx1).1 = 50) (hw0 : WT T σ0) (hx_40 : ∀ (i2 : Int) (i3 : Int) (σ : MS) , (WT T σ) → (FrC T [6, 22] σ0 σ) → (-2147483648 ≤ i2 ∧ i2 ≤ 2147483647) → (0 ≤ i3 ∧ i3 ≤ 2147483647) → Tn (d + 6) m_X2_drop 40 T σ [(0, .ref a), (1, .ref rx1), (2, .int (iI i2)), (3, .int (iI i3))] [] post) (hx_69 : ∀ (i2 : Int) (i3 : Int) (σ : MS) , (WT T σ) → (FrC T [6, 22] σ0 σ) → (-2147483648 ≤ i2 ∧ i2 ≤ 2147483647) → (0 ≤ i3 ∧ i3 ≤ 2147483647) → Tn (d + 6) m_X2_drop 69 T σ [(0, .ref a), (1, .ref rx1), (2, .int (iI i2)), (3, .int (iI i3))] [] post) : ∀ (n : Nat) (i2 : Int) (i3 : Int) (σ : MS) , (WT T σ) → (FrC T [6, 22] σ0 σ) → (-2147483648 ≤ i2 ∧ i2 ≤ 2147483647) → (0 ≤ i3 ∧ i3 ≤ 2147483647) → (2147483700 - i3).toNat = n → Tn (d + 6) m_X2_drop 12 T σ [(0, .ref a), (1, .ref rx1), (2, .int (iI i2)), (3, .int (iI i3))] [] post := by
  intro n
  induction n using Nat.strongRecOn with
  | _ n ih =>
    intro i2 i3 σ hw hF r_i2 r_i3 hm
    refine tn_iload_n dX2_drop_12 rfl 3 rfl ?_
    refine tn_sipush dX2_drop_13 (by decide) ?_
    refine tn_icmp_ge (tgt := 69) dX2_drop_16 (by decide) ⟨by omega, by omega⟩ ⟨by decide, by decide⟩ (fun h1 => ?_) (fun h1 => ?_)
    · exact tn_sub [0, 1, 2, 3] rfl (hx_69 (i2) (i3) σ hw (FrC.rfl.trans (FrC.sub hF (by decide))) (by omega) (by omega))
    · refine tn_aload_n dX2_drop_19 rfl 0 rfl ?_
      obtain ⟨x2, hx3, hk4⟩ : ∃ x : Nat, σ0.2.1 17 a = (x : Int) ∧ (T x).1 = 33 := wf_17 hw0 h_a
      have hk4o : OB T x2 3 := ⟨by omega, by rw [hk4]; rfl, by omega⟩
      refine tn_getR (ci := 2) (i := 0) (n := 17) (x := x2) dX2_drop_20 rfl lay_2 (by decide) fl2_9 h_a rfl rfl (rc_F hF (Or.inl (by decide)) (by decide) (hx3)) ?_
      refine tn_aload_n dX2_drop_23 rfl 1 rfl ?_
      refine tn_callV (M := m_X2_drop) (pc := 24) (ix := 24) (ci := 3) (M' := m_X3_findLiving) (As := [.ref rx1]) (rest := []) dX2_drop_24 ok_X3_findLiving im_X3_findLiving se_X3_findLiving ml2_24 np_X3_findLiving rfl rfl hk4o rfl (Nat.le_of_ble_eq_true rfl) (Nat.le_of_ble_eq_true rfl) rfl (k_X3_findLiving (d + 1) (T := T) (σ := σ) (a := x2) (p1 := rx1) hk4o h_rx1 hw ) (fun r6 T8 σ7 gt9 hp => ?_)
      obtain ⟨rfl, rfl, w11, F12⟩ := hp
      clear gt9
      show Tn _ _ 27 T σ7 [(0, .ref a), (1, .ref rx1), (2, .int (iI i2)), (3, .int (iI i3))] [] _
      refine tn_aload_n dX2_drop_27 rfl 0 rfl ?_
      refine tn_aload_n dX2_drop_28 rfl 1 rfl ?_
      refine tn_callV (M := m_X2_drop) (pc := 29) (ix := 30) (ci := 2) (M' := m_X2_lastUnread) (As := [.ref rx1]) (rest := []) dX2_drop_29 ok_X2_lastUnread im_X2_lastUnread se_X2_lastUnread ml2_30 np_X2_lastUnread rfl rfl h_a rfl (Nat.le_of_ble_eq_true rfl) (Nat.le_of_ble_eq_true rfl) rfl (k_X2_lastUnread (d + 1) (T := T) (σ := σ7) (a := a) (p1 := rx1) h_a h_rx1 t_rx1 w11 ) (fun r13 T15 σ14 gt16 hp => ?_)
      obtain ⟨v18, rfl, rfl, rfl, f17⟩ := hp
      clear gt16
      show Tn _ _ 32 T σ7 [(0, .ref a), (1, .ref rx1), (2, .int (iI i2)), (3, .int (iI i3))] [.int (iI v18)] _
      refine tn_istore (L' := [(4, .int (iI v18)), (0, .ref a), (1, .ref rx1), (2, .int (iI i2)), (3, .int (iI i3))]) dX2_drop_32 (by decide) rfl ?_
      refine tn_iload dX2_drop_34 0 rfl ?_
      refine tn_iconst dX2_drop_36 ?_
      refine tn_icmp_ne (tgt := 43) dX2_drop_37 (by decide) ⟨by omega, by omega⟩ ⟨by decide, by decide⟩ (fun h19 => ?_) (fun h19 => ?_)
      · refine tn_aload_n dX2_drop_43 rfl 1 rfl ?_
        refine tn_aload_n dX2_drop_44 rfl 2 rfl ?_
        refine tn_iload dX2_drop_45 0 rfl ?_
        refine tn_callV (M := m_X2_drop) (pc := 47) (ix := 33) (ci := 2) (M' := m_X2_loosenBinds) (As := [.ref rx1, .int (iI v18)]) (rest := []) dX2_drop_47 ok_X2_loosenBinds im_X2_loosenBinds se_X2_loosenBinds ml2_33 np_X2_loosenBinds rfl rfl h_a rfl (Nat.le_of_ble_eq_true rfl) (Nat.le_of_ble_eq_true rfl) rfl (k_X2_loosenBinds (d) (T := T) (σ := σ7) (a := a) (p1 := rx1) (p2 := v18) h_a h_rx1 t_rx1 (by omega) w11 ) (fun r20 T22 σ21 gt23 hp => ?_)
        obtain ⟨rfl, rfl, w25, F26⟩ := hp
        clear gt23
        show Tn _ _ 50 T σ21 [(4, .int (iI v18)), (0, .ref a), (1, .ref rx1), (2, .int (iI i2)), (3, .int (iI i3))] [] _
        refine tn_aload_n dX2_drop_50 rfl 2 rfl ?_
        refine tn_iload dX2_drop_51 0 rfl ?_
        refine tn_callV (M := m_X2_drop) (pc := 53) (ix := 37) (ci := 1) (M' := m_X1_removeRow) (As := [.int (iI v18)]) (rest := []) dX2_drop_53 ok_X1_removeRow im_X1_removeRow se_X1_removeRow ml2_37 np_X1_removeRow rfl rfl h_rx1 rfl (Nat.le_of_ble_eq_true rfl) (Nat.le_of_ble_eq_true rfl) rfl (k_X1_removeRow (d + 4) (T := T) (σ := σ21) (a := rx1) (k := v18) h_rx1 t_rx1 (by omega) w25 ) (fun r27 T29 σ28 gt30 hp => ?_)
        obtain ⟨rfl, rfl, w32, F33⟩ := hp
        clear gt30
        show Tn _ _ 56 T σ28 [(4, .int (iI v18)), (0, .ref a), (1, .ref rx1), (2, .int (iI i2)), (3, .int (iI i3))] [] _
        refine tn_aload_n dX2_drop_56 rfl 2 rfl ?_
        refine tn_callV (M := m_X2_drop) (pc := 57) (ix := 19) (ci := 1) (M' := m_X1_link) (As := []) (rest := []) dX2_drop_57 ok_X1_link im_X1_link se_X1_link ml2_19 np_X1_link rfl rfl h_rx1 rfl (Nat.le_of_ble_eq_true rfl) (Nat.le_of_ble_eq_true rfl) rfl (k_X1_link (d + 2) (T := T) (σ := σ28) (a := rx1) h_rx1 w32 ) (fun r34 T36 σ35 gt37 hp => ?_)
        obtain ⟨rfl, rfl, w39, F40⟩ := hp
        clear gt37
        show Tn _ _ 60 T σ35 [(4, .int (iI v18)), (0, .ref a), (1, .ref rx1), (2, .int (iI i2)), (3, .int (iI i3))] [] _
        refine tn_iinc (q0 := 3) (L' := [(2, .int (iI (i2 + 1))), (4, .int (iI v18)), (0, .ref a), (1, .ref rx1), (3, .int (iI i3))]) dX2_drop_60 rfl (by decide) rfl ?_
        obtain ⟨z41, g42, g42e⟩ := wr_ex (i2 + 1)
        rw [g42e]
        have g42r : -2147483648 ≤ z41 ∧ z41 ≤ 2147483647 := g42
        refine tn_iinc (q0 := 4) (L' := [(3, .int (iI (i3 + 1))), (2, .int (iI z41)), (4, .int (iI v18)), (0, .ref a), (1, .ref rx1)]) dX2_drop_63 rfl (by decide) rfl ?_
        refine tn_goto (tgt := 12) dX2_drop_66 (by decide) ?_
        exact tn_sub [3, 4, 1, 0] rfl (ih _ (by omega) (z41) (i3 + 1) σ35 w39 (((((FrC.rfl.trans (FrC.sub hF (by decide))).trans (FrC.sub F12 (by decide))).trans (FrC.sub F26 (by decide))).trans (FrC.sub F33 (by decide))).trans (FrC.sub F40 (by decide))) (by omega) (by omega) rfl)
      · exact tn_sub [1, 2, 3, 4] rfl (hx_40 (i2) (i3) σ7 w11 ((FrC.rfl.trans (FrC.sub hF (by decide))).trans (FrC.sub F12 (by decide))) (by omega) (by omega))
theorem dX2_drop_40 : decode cX2_drop 40 = .ok (.goto 29, 3) := by decide +kernel
theorem dX2_drop_69 : decode cX2_drop 69 = .ok (.iload_n 2, 1) := by decide +kernel
theorem dX2_drop_70 : decode cX2_drop 70 = .ok (.ireturn, 1) := by decide +kernel
set_option maxRecDepth 20000 in
theorem k_X2_drop (d : Nat) {T : CT} {σ : MS} {a : Nat} {p1 : Nat} (ha : OB T a 2) (h_p1 : OB T p1 1) (t_p1 : (T p1).1 = 50) (hw : WT T σ) : Tn (d + 6) m_X2_drop 0 T σ [(0, .ref a), (1, .ref p1)] [] (fun ro T2 σ2 => ∃ v : Int, ro = some (.int (iI v)) ∧ T = T2 ∧ WT T2 σ2 ∧ FrC T [6, 22] σ σ2 ∧ (-2147483648 ≤ v ∧ v ≤ 2147483647)) := by
  refine tn_aload_n dX2_drop_0 rfl 0 rfl ?_
  refine tn_aload_n dX2_drop_1 rfl 1 rfl ?_
  refine tn_callV (M := m_X2_drop) (pc := 2) (ix := 15) (ci := 2) (M' := m_X2_dropUnreached) (As := [.ref p1]) (rest := []) dX2_drop_2 ok_X2_dropUnreached im_X2_dropUnreached se_X2_dropUnreached ml2_15 np_X2_dropUnreached rfl rfl ha rfl (Nat.le_of_ble_eq_true rfl) (Nat.le_of_ble_eq_true rfl) rfl (k_X2_dropUnreached (d) (T := T) (σ := σ) (a := a) (p1 := p1) ha h_p1 t_p1 hw ) (fun r1 T3 σ2 gt4 hp => ?_)
  obtain ⟨v6, rfl, rfl, w7, F8, f5⟩ := hp
  clear gt4
  show Tn _ _ 5 T σ2 [(0, .ref a), (1, .ref p1)] [.int (iI v6)] _
  refine tn_istore_n (L' := [(2, .int (iI v6)), (0, .ref a), (1, .ref p1)]) dX2_drop_5 rfl (by decide) rfl ?_
  refine tn_aload_n dX2_drop_6 rfl 2 rfl ?_
  refine tn_callV (M := m_X2_drop) (pc := 7) (ix := 19) (ci := 1) (M' := m_X1_link) (As := []) (rest := []) dX2_drop_7 ok_X1_link im_X1_link se_X1_link ml2_19 np_X1_link rfl rfl h_p1 rfl (Nat.le_of_ble_eq_true rfl) (Nat.le_of_ble_eq_true rfl) rfl (k_X1_link (d + 2) (T := T) (σ := σ2) (a := p1) h_p1 w7 ) (fun r9 T11 σ10 gt12 hp => ?_)
  obtain ⟨rfl, rfl, w14, F15⟩ := hp
  clear gt12
  show Tn _ _ 10 T σ10 [(2, .int (iI v6)), (0, .ref a), (1, .ref p1)] [] _
  refine tn_iconst dX2_drop_10 ?_
  refine tn_istore_n (L' := [(3, .int (iI 0)), (2, .int (iI v6)), (0, .ref a), (1, .ref p1)]) dX2_drop_11 rfl (by decide) rfl ?_
  refine tn_sub [2, 3, 1, 0] rfl (l_X2_drop_12 (d) (T := T) (σ0 := σ10) (a := a) (rx1 := p1) ha h_p1 t_p1 w14 (fun i216 i317 σ18 w21 F22 r23 r24 => ?_) (fun i225 i326 σ27 w30 F31 r32 r33 => ?_) _ (v6) (0) σ10 w14 FrC.rfl (by omega) (by omega) rfl)
  · show Tn _ _ 40 T σ18 [(0, .ref a), (1, .ref p1), (2, .int (iI i216)), (3, .int (iI i317))] [] _
    refine tn_goto (tgt := 69) dX2_drop_40 (by decide) ?_
    refine tn_iload_n dX2_drop_69 rfl 2 rfl ?_
    exact tn_iret rfl dX2_drop_70 ⟨_, rfl, rfl, w21, (((FrC.rfl.trans (FrC.sub F8 (by decide))).trans (FrC.sub F15 (by decide))).trans (FrC.sub F22 (by decide))), by omega⟩
  · show Tn _ _ 69 T σ27 [(0, .ref a), (1, .ref p1), (2, .int (iI i225)), (3, .int (iI i326))] [] _
    refine tn_iload_n dX2_drop_69 rfl 2 rfl ?_
    exact tn_iret rfl dX2_drop_70 ⟨_, rfl, rfl, w30, (((FrC.rfl.trans (FrC.sub F8 (by decide))).trans (FrC.sub F15 (by decide))).trans (FrC.sub F31 (by decide))), by omega⟩
end
section
theorem cd_X6_foldBind : Cond.code yX6_foldBind cX6_foldBind 4 none ∈ pWW := pw4 (List.mem_of_getElem? (i := 193) rfl) rfl
theorem ini_6 : Cond.initialized RX6 ∈ pWW := pw1 (List.mem_of_getElem? (i := 7) rfl) rfl
abbrev m_X6_foldBind : MT := (yX6_foldBind, cX6_foldBind, 4, none)
theorem ok_X6_foldBind : pOk m_X6_foldBind := ⟨⟨cd_X6_foldBind, ini_6⟩, by decide +kernel, ⟨by decide +kernel, by decide +kernel⟩, Nat.le_of_ble_eq_true rfl⟩
theorem np_X6_foldBind : (parseMethodDescriptor yX6_foldBind.desc).map (fun d => d.parameters.length) = some 2 := by decide +kernel
theorem im_X6_foldBind : Cond.instanceMethod yX6_foldBind ∈ pWW := pw4 (List.mem_of_getElem? (i := 192) rfl) rfl
theorem se_X6_foldBind : Cond.selects RX6 yX6_foldBind yX6_foldBind ∈ pWW := pws (List.mem_map.mpr ⟨_, lw_pin 45 rfl, rfl⟩) rfl
theorem ml6_34 : Cond.methodLink RX6 34 yX1_get ∈ pWW := pw4 (List.mem_of_getElem? (i := 189) rfl) rfl
theorem fl6_9 : Cond.fieldLink RX6 9 (TX6 0).1 (TX6 0).2.1 (TX6 0).2.2.1 ∈ pWW := pw2 (List.mem_of_getElem? (i := 35) rfl) rfl
theorem nl6_63 : (RX6, 63, yX11_at, "LineKeeper") ∈ nst_M := List.mem_of_getElem? (i := 16) rfl
theorem fl6_15 : Cond.fieldLink RX6 15 (TX6 1).1 (TX6 1).2.1 (TX6 1).2.2.1 ∈ pWW := pw2 (List.mem_of_getElem? (i := 36) rfl) rfl
theorem ml6_67 : Cond.methodLink RX6 67 yX1_setWhere ∈ pWW := pw4 (List.mem_of_getElem? (i := 195) rfl) rfl
theorem dX6_foldBind_0 : decode cX6_foldBind 0 = .ok (.aload_n 1, 1) := by decide +kernel
theorem dX6_foldBind_1 : decode cX6_foldBind 1 = .ok (.iload_n 2, 1) := by decide +kernel
theorem dX6_foldBind_2 : decode cX6_foldBind 2 = .ok (.iconst 4, 1) := by decide +kernel
theorem dX6_foldBind_3 : decode cX6_foldBind 3 = .ok (.invokevirtual 34, 3) := by decide +kernel
theorem dX6_foldBind_6 : decode cX6_foldBind 6 = .ok (.istore_n 3, 1) := by decide +kernel
theorem dX6_foldBind_7 : decode cX6_foldBind 7 = .ok (.aload_n 1, 1) := by decide +kernel
theorem dX6_foldBind_8 : decode cX6_foldBind 8 = .ok (.iload_n 2, 1) := by decide +kernel
theorem dX6_foldBind_9 : decode cX6_foldBind 9 = .ok (.bipush 11, 2) := by decide +kernel
theorem dX6_foldBind_11 : decode cX6_foldBind 11 = .ok (.invokevirtual 34, 3) := by decide +kernel
theorem dX6_foldBind_14 : decode cX6_foldBind 14 = .ok (.iconst 2, 1) := by decide +kernel
theorem dX6_foldBind_15 : decode cX6_foldBind 15 = .ok (.if_icmp .ne 29, 3) := by decide +kernel
theorem dX6_foldBind_44 : decode cX6_foldBind 44 = .ok (.return_, 1) := by decide +kernel
theorem dX6_foldBind_18 : decode cX6_foldBind 18 = .ok (.aload_n 0, 1) := by decide +kernel
theorem dX6_foldBind_19 : decode cX6_foldBind 19 = .ok (.getfield 9, 3) := by decide +kernel
theorem dX6_foldBind_22 : decode cX6_foldBind 22 = .ok (.iload_n 3, 1) := by decide +kernel
theorem dX6_foldBind_23 : decode cX6_foldBind 23 = .ok (.invokestatic 63, 3) := by decide +kernel
theorem dX6_foldBind_26 : decode cX6_foldBind 26 = .ok (.iconst 1, 1) := by decide +kernel
theorem dX6_foldBind_27 : decode cX6_foldBind 27 = .ok (.if_icmp .ne 17, 3) := by decide +kernel
theorem dX6_foldBind_30 : decode cX6_foldBind 30 = .ok (.aload_n 1, 1) := by decide +kernel
theorem dX6_foldBind_31 : decode cX6_foldBind 31 = .ok (.iload_n 2, 1) := by decide +kernel
theorem dX6_foldBind_32 : decode cX6_foldBind 32 = .ok (.iconst 1, 1) := by decide +kernel
theorem dX6_foldBind_33 : decode cX6_foldBind 33 = .ok (.aload_n 0, 1) := by decide +kernel
theorem dX6_foldBind_34 : decode cX6_foldBind 34 = .ok (.getfield 15, 3) := by decide +kernel
theorem dX6_foldBind_37 : decode cX6_foldBind 37 = .ok (.iload_n 3, 1) := by decide +kernel
theorem dX6_foldBind_38 : decode cX6_foldBind 38 = .ok (.invokestatic 63, 3) := by decide +kernel
theorem dX6_foldBind_41 : decode cX6_foldBind 41 = .ok (.invokevirtual 67, 3) := by decide +kernel
set_option maxRecDepth 20000 in
theorem k_X6_foldBind (d : Nat) {T : CT} {σ : MS} {a : Nat} {p1 : Nat} {p2 : Int} (ha : OB T a 6) (h_p1 : OB T p1 1) (t_p1 : (T p1).1 = 50) (h_p2 : -2147483648 ≤ p2 ∧ p2 ≤ 2147483647) (hw : WT T σ) : Tn (d + 3) m_X6_foldBind 0 T σ [(0, .ref a), (1, .ref p1), (2, .int (iI p2))] [] (fun ro T2 σ2 => ro = none ∧ T = T2 ∧ WT T2 σ2 ∧ FrC T [] σ σ2) := by
  refine tn_aload_n dX6_foldBind_0 rfl 1 rfl ?_
  refine tn_iload_n dX6_foldBind_1 rfl 2 rfl ?_
  refine tn_iconst dX6_foldBind_2 ?_
  refine tn_callV (M := m_X6_foldBind) (pc := 3) (ix := 34) (ci := 1) (M' := m_X1_get) (As := [.int (iI p2), .int (iI 4)]) (rest := []) dX6_foldBind_3 ok_X1_get im_X1_get se_X1_get ml6_34 np_X1_get rfl rfl h_p1 rfl (Nat.le_of_ble_eq_true rfl) (Nat.le_of_ble_eq_true rfl) rfl (k_X1_get (d + 1) (T := T) (σ := σ) (a := p1) (k := p2) (c := 4) h_p1 (by omega) (by decide) hw (by omega)) (fun r1 T3 σ2 gt4 hp => ?_)
  obtain ⟨v6, rfl, rfl, rfl, f5⟩ := hp
  clear gt4
  show Tn _ _ 6 T σ [(0, .ref a), (1, .ref p1), (2, .int (iI p2))] [.int (iI v6)] _
  refine tn_istore_n (L' := [(3, .int (iI v6)), (0, .ref a), (1, .ref p1), (2, .int (iI p2))]) dX6_foldBind_6 rfl (by decide) rfl ?_
  refine tn_aload_n dX6_foldBind_7 rfl 2 rfl ?_
  refine tn_iload_n dX6_foldBind_8 rfl 3 rfl ?_
  refine tn_bipush dX6_foldBind_9 (by decide) ?_
  refine tn_callV (M := m_X6_foldBind) (pc := 11) (ix := 34) (ci := 1) (M' := m_X1_get) (As := [.int (iI p2), .int (iI 11)]) (rest := []) dX6_foldBind_11 ok_X1_get im_X1_get se_X1_get ml6_34 np_X1_get rfl rfl h_p1 rfl (Nat.le_of_ble_eq_true rfl) (Nat.le_of_ble_eq_true rfl) rfl (k_X1_get (d + 1) (T := T) (σ := σ) (a := p1) (k := p2) (c := 11) h_p1 (by omega) (by decide) hw (by omega)) (fun r7 T9 σ8 gt10 hp => ?_)
  obtain ⟨v12, rfl, rfl, rfl, f11⟩ := hp
  clear gt10
  show Tn _ _ 14 T σ [(3, .int (iI v6)), (0, .ref a), (1, .ref p1), (2, .int (iI p2))] [.int (iI v12)] _
  refine tn_iconst dX6_foldBind_14 ?_
  refine tn_icmp_ne (tgt := 44) dX6_foldBind_15 (by decide) ⟨by omega, by omega⟩ ⟨by decide, by decide⟩ (fun h13 => ?_) (fun h13 => ?_)
  · exact tn_vret rfl dX6_foldBind_44 ⟨rfl, rfl, hw, FrC.rfl⟩
  · refine tn_aload_n dX6_foldBind_18 rfl 1 rfl ?_
    obtain ⟨x14, hx15, hk16, hl17⟩ : ∃ x : Nat, σ.2.1 52 a = (x : Int) ∧ AR T x 1 192 192 := wf_52 hw ha
    have hk16i : IA T x14 := by unfold IA; omega
    refine tn_getR (ci := 6) (i := 0) (n := 52) (x := x14) dX6_foldBind_19 rfl lay_6 (by decide) fl6_9 ha rfl rfl (hx15) ?_
    refine tn_iload_n dX6_foldBind_22 rfl 0 rfl ?_
    refine tn_callSN (M := m_X6_foldBind) (pc := 23) (ix := 63) (M' := m_X11_at) (As := [.ref x14, .int (iI v6)]) (rest := []) dX6_foldBind_23 ok_X11_at stt_X11_at nl6_63 np_X11_at rfl (Nat.le_of_ble_eq_true rfl) (Nat.le_of_ble_eq_true rfl) rfl (k_X11_at (d + 1) (T := T) (σ := σ) (x := x14) (i := v6) hk16i (by omega) (by omega) hw ) (fun r18 T20 σ19 gt21 hp => ?_)
    obtain ⟨v25, rfl, rfl, rfl, f22, f23, f24⟩ := hp
    clear gt21
    clear f23 f24
    show Tn _ _ 26 T σ [(3, .int (iI v6)), (0, .ref a), (1, .ref p1), (2, .int (iI p2))] [.int (iI v25)] _
    refine tn_iconst dX6_foldBind_26 ?_
    refine tn_icmp_ne (tgt := 44) dX6_foldBind_27 (by decide) ⟨by omega, by omega⟩ ⟨by decide, by decide⟩ (fun h26 => ?_) (fun h26 => ?_)
    · exact tn_vret rfl dX6_foldBind_44 ⟨rfl, rfl, hw, FrC.rfl⟩
    · refine tn_aload_n dX6_foldBind_30 rfl 2 rfl ?_
      refine tn_iload_n dX6_foldBind_31 rfl 3 rfl ?_
      refine tn_iconst dX6_foldBind_32 ?_
      refine tn_aload_n dX6_foldBind_33 rfl 1 rfl ?_
      obtain ⟨x27, hx28, hk29, hl30⟩ : ∃ x : Nat, σ.2.1 53 a = (x : Int) ∧ AR T x 1 192 192 := wf_53 hw ha
      have hk29i : IA T x27 := by unfold IA; omega
      refine tn_getR (ci := 6) (i := 1) (n := 53) (x := x27) dX6_foldBind_34 rfl lay_6 (by decide) fl6_15 ha rfl rfl (hx28) ?_
      refine tn_iload_n dX6_foldBind_37 rfl 0 rfl ?_
      refine tn_callSN (M := m_X6_foldBind) (pc := 38) (ix := 63) (M' := m_X11_at) (As := [.ref x27, .int (iI v6)]) (rest := [.int (iI 1), .int (iI p2), .ref p1]) dX6_foldBind_38 ok_X11_at stt_X11_at nl6_63 np_X11_at rfl (Nat.le_of_ble_eq_true rfl) (Nat.le_of_ble_eq_true rfl) rfl (k_X11_at (d + 1) (T := T) (σ := σ) (x := x27) (i := v6) hk29i (by omega) (by omega) hw ) (fun r31 T33 σ32 gt34 hp => ?_)
      obtain ⟨v38, rfl, rfl, rfl, f35, f36, f37⟩ := hp
      clear gt34
      clear f36 f37
      show Tn _ _ 41 T σ [(3, .int (iI v6)), (0, .ref a), (1, .ref p1), (2, .int (iI p2))] [.int (iI v38), .int (iI 1), .int (iI p2), .ref p1] _
      refine tn_callV (M := m_X6_foldBind) (pc := 41) (ix := 67) (ci := 1) (M' := m_X1_setWhere) (As := [.int (iI p2), .int (iI 1), .int (iI v38)]) (rest := []) dX6_foldBind_41 ok_X1_setWhere im_X1_setWhere se_X1_setWhere ml6_67 np_X1_setWhere rfl rfl h_p1 rfl (Nat.le_of_ble_eq_true rfl) (Nat.le_of_ble_eq_true rfl) rfl (k_X1_setWhere (d) (T := T) (σ := σ) (a := p1) (k := p2) (y := 1) (z := v38) h_p1 (by omega) (by decide) (by omega) hw ) (fun r39 T41 σ40 gt42 hp => ?_)
      obtain ⟨rfl, rfl, w44, F45⟩ := hp
      clear gt42
      show Tn _ _ 44 T σ40 [(3, .int (iI v6)), (0, .ref a), (1, .ref p1), (2, .int (iI p2))] [] _
      exact tn_vret rfl dX6_foldBind_44 ⟨rfl, rfl, w44, (FrC.rfl.trans (FrC.sub F45 (by decide)))⟩
end
section
theorem cd_X6_foldOperands : Cond.code yX6_foldOperands cX6_foldOperands 6 (some .boolean) ∈ pWW := pw4 (List.mem_of_getElem? (i := 200) rfl) rfl
abbrev m_X6_foldOperands : MT := (yX6_foldOperands, cX6_foldOperands, 6, (some .boolean))
theorem ok_X6_foldOperands : pOk m_X6_foldOperands := ⟨⟨cd_X6_foldOperands, ini_6⟩, by decide +kernel, ⟨by decide +kernel, by decide +kernel⟩, Nat.le_of_ble_eq_true rfl⟩
theorem np_X6_foldOperands : (parseMethodDescriptor yX6_foldOperands.desc).map (fun d => d.parameters.length) = some 2 := by decide +kernel
theorem im_X6_foldOperands : Cond.instanceMethod yX6_foldOperands ∈ pWW := pw4 (List.mem_of_getElem? (i := 199) rfl) rfl
theorem se_X6_foldOperands : Cond.selects RX6 yX6_foldOperands yX6_foldOperands ∈ pWW := pws (List.mem_map.mpr ⟨_, lw_pin 46 rfl, rfl⟩) rfl
theorem ml6_71 : Cond.methodLink RX6 71 yX1_set ∈ pWW := pw4 (List.mem_of_getElem? (i := 201) rfl) rfl
theorem dX6_foldOperands_0 : decode cX6_foldOperands 0 = .ok (.iconst 0, 1) := by decide +kernel
theorem dX6_foldOperands_1 : decode cX6_foldOperands 1 = .ok (.istore_n 3, 1) := by decide +kernel
theorem dX6_foldOperands_2 : decode cX6_foldOperands 2 = .ok (.iconst 3, 1) := by decide +kernel
theorem dX6_foldOperands_3 : decode cX6_foldOperands 3 = .ok (.istore 4, 2) := by decide +kernel
theorem dX6_foldOperands_5 : decode cX6_foldOperands 5 = .ok (.iload 4, 2) := by decide +kernel
theorem dX6_foldOperands_7 : decode cX6_foldOperands 7 = .ok (.bipush 11, 2) := by decide +kernel
theorem dX6_foldOperands_9 : decode cX6_foldOperands 9 = .ok (.if_icmp .ge 79, 3) := by decide +kernel
theorem dX6_foldOperands_12 : decode cX6_foldOperands 12 = .ok (.aload_n 1, 1) := by decide +kernel
theorem dX6_foldOperands_13 : decode cX6_foldOperands 13 = .ok (.iload_n 2, 1) := by decide +kernel
theorem dX6_foldOperands_14 : decode cX6_foldOperands 14 = .ok (.iload 4, 2) := by decide +kernel
theorem dX6_foldOperands_16 : decode cX6_foldOperands 16 = .ok (.iconst 1, 1) := by decide +kernel
theorem dX6_foldOperands_17 : decode cX6_foldOperands 17 = .ok (.iadd, 1) := by decide +kernel
theorem dX6_foldOperands_18 : decode cX6_foldOperands 18 = .ok (.invokevirtual 34, 3) := by decide +kernel
theorem dX6_foldOperands_21 : decode cX6_foldOperands 21 = .ok (.istore 5, 2) := by decide +kernel
theorem dX6_foldOperands_23 : decode cX6_foldOperands 23 = .ok (.aload_n 1, 1) := by decide +kernel
theorem dX6_foldOperands_24 : decode cX6_foldOperands 24 = .ok (.iload_n 2, 1) := by decide +kernel
theorem dX6_foldOperands_25 : decode cX6_foldOperands 25 = .ok (.iload 4, 2) := by decide +kernel
theorem dX6_foldOperands_27 : decode cX6_foldOperands 27 = .ok (.invokevirtual 34, 3) := by decide +kernel
theorem dX6_foldOperands_30 : decode cX6_foldOperands 30 = .ok (.iconst 2, 1) := by decide +kernel
theorem dX6_foldOperands_31 : decode cX6_foldOperands 31 = .ok (.if_icmp .ne 51, 3) := by decide +kernel
theorem dX6_foldOperands_82 : decode cX6_foldOperands 82 = .ok (.iinc 4 2, 3) := by decide +kernel
theorem dX6_foldOperands_85 : decode cX6_foldOperands 85 = .ok (.goto (-80), 3) := by decide +kernel
theorem dX6_foldOperands_34 : decode cX6_foldOperands 34 = .ok (.aload_n 0, 1) := by decide +kernel
theorem dX6_foldOperands_35 : decode cX6_foldOperands 35 = .ok (.getfield 9, 3) := by decide +kernel
theorem dX6_foldOperands_38 : decode cX6_foldOperands 38 = .ok (.iload 5, 2) := by decide +kernel
theorem dX6_foldOperands_40 : decode cX6_foldOperands 40 = .ok (.invokestatic 63, 3) := by decide +kernel
theorem dX6_foldOperands_43 : decode cX6_foldOperands 43 = .ok (.ifCond .eq 39, 3) := by decide +kernel
theorem dX6_foldOperands_46 : decode cX6_foldOperands 46 = .ok (.aload_n 1, 1) := by decide +kernel
theorem dX6_foldOperands_47 : decode cX6_foldOperands 47 = .ok (.iload_n 2, 1) := by decide +kernel
theorem dX6_foldOperands_48 : decode cX6_foldOperands 48 = .ok (.iload 4, 2) := by decide +kernel
theorem dX6_foldOperands_50 : decode cX6_foldOperands 50 = .ok (.aload_n 0, 1) := by decide +kernel
theorem dX6_foldOperands_51 : decode cX6_foldOperands 51 = .ok (.getfield 9, 3) := by decide +kernel
theorem dX6_foldOperands_54 : decode cX6_foldOperands 54 = .ok (.iload 5, 2) := by decide +kernel
theorem dX6_foldOperands_56 : decode cX6_foldOperands 56 = .ok (.invokestatic 63, 3) := by decide +kernel
theorem dX6_foldOperands_59 : decode cX6_foldOperands 59 = .ok (.invokevirtual 71, 3) := by decide +kernel
theorem dX6_foldOperands_62 : decode cX6_foldOperands 62 = .ok (.aload_n 1, 1) := by decide +kernel
theorem dX6_foldOperands_63 : decode cX6_foldOperands 63 = .ok (.iload_n 2, 1) := by decide +kernel
theorem dX6_foldOperands_64 : decode cX6_foldOperands 64 = .ok (.iload 4, 2) := by decide +kernel
theorem dX6_foldOperands_66 : decode cX6_foldOperands 66 = .ok (.iconst 1, 1) := by decide +kernel
theorem dX6_foldOperands_67 : decode cX6_foldOperands 67 = .ok (.iadd, 1) := by decide +kernel
theorem dX6_foldOperands_68 : decode cX6_foldOperands 68 = .ok (.aload_n 0, 1) := by decide +kernel
theorem dX6_foldOperands_69 : decode cX6_foldOperands 69 = .ok (.getfield 15, 3) := by decide +kernel
theorem dX6_foldOperands_72 : decode cX6_foldOperands 72 = .ok (.iload 5, 2) := by decide +kernel
theorem dX6_foldOperands_74 : decode cX6_foldOperands 74 = .ok (.invokestatic 63, 3) := by decide +kernel
theorem dX6_foldOperands_77 : decode cX6_foldOperands 77 = .ok (.invokevirtual 71, 3) := by decide +kernel
theorem dX6_foldOperands_80 : decode cX6_foldOperands 80 = .ok (.iconst 1, 1) := by decide +kernel
theorem dX6_foldOperands_81 : decode cX6_foldOperands 81 = .ok (.istore_n 3, 1) := by decide +kernel
set_option maxRecDepth 20000 in
theorem l_X6_foldOperands_5 (d : Nat) {T : CT} {σ0 : MS} {a : Nat} {rx1 : Nat} {c2 : Int} {post : Option Value → CT → MS → Prop} (h_a : OB T a 6) (h_rx1 : OB T rx1 1) (t_rx1 : (T rx1).1 = 50) (r_c2 : -2147483648 ≤ c2 ∧ c2 ≤ 2147483647) (hw0 : WT T σ0) (hx_88 : ∀ (i3 : Int) (i4 : Int) (σ : MS) , (WT T σ) → (FrC T [] σ0 σ) → (0 ≤ i3 ∧ i3 ≤ 1) → (3 ≤ i4 ∧ i4 ≤ 2147483647) → Tn (d + 2) m_X6_foldOperands 88 T σ [(0, .ref a), (1, .ref rx1), (2, .int (iI c2)), (3, .int (iI i3)), (4, .int (iI i4))] [] post) : ∀ (n : Nat) (i3 : Int) (i4 : Int) (σ : MS) , (WT T σ) → (FrC T [] σ0 σ) → (0 ≤ i3 ∧ i3 ≤ 1) → (3 ≤ i4 ∧ i4 ≤ 2147483647) → (2147483700 - i4).toNat = n → Tn (d + 2) m_X6_foldOperands 5 T σ [(0, .ref a), (1, .ref rx1), (2, .int (iI c2)), (3, .int (iI i3)), (4, .int (iI i4))] [] post := by
  intro n
  induction n using Nat.strongRecOn with
  | _ n ih =>
    intro i3 i4 σ hw hF r_i3 r_i4 hm
    refine tn_iload dX6_foldOperands_5 4 rfl ?_
    refine tn_bipush dX6_foldOperands_7 (by decide) ?_
    refine tn_icmp_ge (tgt := 88) dX6_foldOperands_9 (by decide) ⟨by omega, by omega⟩ ⟨by decide, by decide⟩ (fun h1 => ?_) (fun h1 => ?_)
    · exact tn_sub [0, 1, 2, 3, 4] rfl (hx_88 (i3) (i4) σ hw (FrC.rfl.trans (FrC.sub hF (by decide))) (by omega) (by omega))
    · refine tn_aload_n dX6_foldOperands_12 rfl 1 rfl ?_
      refine tn_iload_n dX6_foldOperands_13 rfl 2 rfl ?_
      refine tn_iload dX6_foldOperands_14 4 rfl ?_
      refine tn_iconst dX6_foldOperands_16 ?_
      refine tn_iadd dX6_foldOperands_17 ?_
      refine tn_callV (M := m_X6_foldOperands) (pc := 18) (ix := 34) (ci := 1) (M' := m_X1_get) (As := [.int (iI c2), .int (iI (i4 + 1))]) (rest := []) dX6_foldOperands_18 ok_X1_get im_X1_get se_X1_get ml6_34 np_X1_get rfl rfl h_rx1 rfl (Nat.le_of_ble_eq_true rfl) (Nat.le_of_ble_eq_true rfl) rfl (k_X1_get (d) (T := T) (σ := σ) (a := rx1) (k := c2) (c := i4 + 1) h_rx1 (by omega) (by omega) hw (by omega)) (fun r2 T4 σ3 gt5 hp => ?_)
      obtain ⟨v7, rfl, rfl, rfl, f6⟩ := hp
      clear gt5
      show Tn _ _ 21 T σ [(0, .ref a), (1, .ref rx1), (2, .int (iI c2)), (3, .int (iI i3)), (4, .int (iI i4))] [.int (iI v7)] _
      refine tn_istore (L' := [(5, .int (iI v7)), (0, .ref a), (1, .ref rx1), (2, .int (iI c2)), (3, .int (iI i3)), (4, .int (iI i4))]) dX6_foldOperands_21 (by decide) rfl ?_
      refine tn_aload_n dX6_foldOperands_23 rfl 2 rfl ?_
      refine tn_iload_n dX6_foldOperands_24 rfl 3 rfl ?_
      refine tn_iload dX6_foldOperands_25 5 rfl ?_
      refine tn_callV (M := m_X6_foldOperands) (pc := 27) (ix := 34) (ci := 1) (M' := m_X1_get) (As := [.int (iI c2), .int (iI i4)]) (rest := []) dX6_foldOperands_27 ok_X1_get im_X1_get se_X1_get ml6_34 np_X1_get rfl rfl h_rx1 rfl (Nat.le_of_ble_eq_true rfl) (Nat.le_of_ble_eq_true rfl) rfl (k_X1_get (d) (T := T) (σ := σ) (a := rx1) (k := c2) (c := i4) h_rx1 (by omega) (by omega) hw (by omega)) (fun r8 T10 σ9 gt11 hp => ?_)
      obtain ⟨v13, rfl, rfl, rfl, f12⟩ := hp
      clear gt11
      show Tn _ _ 30 T σ [(5, .int (iI v7)), (0, .ref a), (1, .ref rx1), (2, .int (iI c2)), (3, .int (iI i3)), (4, .int (iI i4))] [.int (iI v13)] _
      refine tn_iconst dX6_foldOperands_30 ?_
      refine tn_icmp_ne (tgt := 82) dX6_foldOperands_31 (by decide) ⟨by omega, by omega⟩ ⟨by decide, by decide⟩ (fun h14 => ?_) (fun h14 => ?_)
      · refine tn_iinc (q0 := 5) (L' := [(4, .int (iI (i4 + 2))), (5, .int (iI v7)), (0, .ref a), (1, .ref rx1), (2, .int (iI c2)), (3, .int (iI i3))]) dX6_foldOperands_82 rfl (by decide) rfl ?_
        refine tn_goto (tgt := 5) dX6_foldOperands_85 (by decide) ?_
        exact tn_sub [2, 3, 4, 5, 0] rfl (ih _ (by omega) (i3) (i4 + 2) σ hw (FrC.rfl.trans (FrC.sub hF (by decide))) (by omega) (by omega) rfl)
      · refine tn_aload_n dX6_foldOperands_34 rfl 1 rfl ?_
        obtain ⟨x15, hx16, hk17, hl18⟩ : ∃ x : Nat, σ0.2.1 52 a = (x : Int) ∧ AR T x 1 192 192 := wf_52 hw0 h_a
        have hk17i : IA T x15 := by unfold IA; omega
        refine tn_getR (ci := 6) (i := 0) (n := 52) (x := x15) dX6_foldOperands_35 rfl lay_6 (by decide) fl6_9 h_a rfl rfl (rc_F hF (Or.inl (by decide)) (by decide) (hx16)) ?_
        refine tn_iload dX6_foldOperands_38 0 rfl ?_
        refine tn_callSN (M := m_X6_foldOperands) (pc := 40) (ix := 63) (M' := m_X11_at) (As := [.ref x15, .int (iI v7)]) (rest := []) dX6_foldOperands_40 ok_X11_at stt_X11_at nl6_63 np_X11_at rfl (Nat.le_of_ble_eq_true rfl) (Nat.le_of_ble_eq_true rfl) rfl (k_X11_at (d) (T := T) (σ := σ) (x := x15) (i := v7) hk17i (by omega) (by omega) hw ) (fun r19 T21 σ20 gt22 hp => ?_)
        obtain ⟨v26, rfl, rfl, rfl, f23, f24, f25⟩ := hp
        clear gt22
        clear f24 f25
        show Tn _ _ 43 T σ [(5, .int (iI v7)), (0, .ref a), (1, .ref rx1), (2, .int (iI c2)), (3, .int (iI i3)), (4, .int (iI i4))] [.int (iI v26)] _
        refine tn_if_eq (tgt := 82) dX6_foldOperands_43 (by decide) ⟨by omega, by omega⟩ (fun h27 => ?_) (fun h27 => ?_)
        · refine tn_iinc (q0 := 5) (L' := [(4, .int (iI (i4 + 2))), (5, .int (iI v7)), (0, .ref a), (1, .ref rx1), (2, .int (iI c2)), (3, .int (iI i3))]) dX6_foldOperands_82 rfl (by decide) rfl ?_
          refine tn_goto (tgt := 5) dX6_foldOperands_85 (by decide) ?_
          exact tn_sub [2, 3, 4, 5, 0] rfl (ih _ (by omega) (i3) (i4 + 2) σ hw (FrC.rfl.trans (FrC.sub hF (by decide))) (by omega) (by omega) rfl)
        · refine tn_aload_n dX6_foldOperands_46 rfl 2 rfl ?_
          refine tn_iload_n dX6_foldOperands_47 rfl 3 rfl ?_
          refine tn_iload dX6_foldOperands_48 5 rfl ?_
          refine tn_aload_n dX6_foldOperands_50 rfl 1 rfl ?_
          refine tn_getR (ci := 6) (i := 0) (n := 52) (x := x15) dX6_foldOperands_51 rfl lay_6 (by decide) fl6_9 h_a rfl rfl (rc_F hF (Or.inl (by decide)) (by decide) (hx16)) ?_
          refine tn_iload dX6_foldOperands_54 0 rfl ?_
          refine tn_callSN (M := m_X6_foldOperands) (pc := 56) (ix := 63) (M' := m_X11_at) (As := [.ref x15, .int (iI v7)]) (rest := [.int (iI i4), .int (iI c2), .ref rx1]) dX6_foldOperands_56 ok_X11_at stt_X11_at nl6_63 np_X11_at rfl (Nat.le_of_ble_eq_true rfl) (Nat.le_of_ble_eq_true rfl) rfl (k_X11_at (d) (T := T) (σ := σ) (x := x15) (i := v7) hk17i (by omega) (by omega) hw ) (fun r28 T30 σ29 gt31 hp => ?_)
          obtain ⟨v35, rfl, rfl, rfl, f32, f33, f34⟩ := hp
          clear gt31
          clear f33 f34
          show Tn _ _ 59 T σ [(5, .int (iI v7)), (0, .ref a), (1, .ref rx1), (2, .int (iI c2)), (3, .int (iI i3)), (4, .int (iI i4))] [.int (iI v35), .int (iI i4), .int (iI c2), .ref rx1] _
          refine tn_callV (M := m_X6_foldOperands) (pc := 59) (ix := 71) (ci := 1) (M' := m_X1_set) (As := [.int (iI c2), .int (iI i4), .int (iI v35)]) (rest := []) dX6_foldOperands_59 ok_X1_set im_X1_set se_X1_set ml6_71 np_X1_set rfl rfl h_rx1 rfl (Nat.le_of_ble_eq_true rfl) (Nat.le_of_ble_eq_true rfl) rfl (k_X1_set (d) (T := T) (σ := σ) (a := rx1) (k := c2) (c := i4) (y := v35) h_rx1 (by omega) (by omega) (by omega) hw (by omega) (by omega)) (fun r36 T38 σ37 gt39 hp => ?_)
          obtain ⟨rfl, rfl, w41, F42⟩ := hp
          clear gt39
          show Tn _ _ 62 T σ37 [(5, .int (iI v7)), (0, .ref a), (1, .ref rx1), (2, .int (iI c2)), (3, .int (iI i3)), (4, .int (iI i4))] [] _
          refine tn_aload_n dX6_foldOperands_62 rfl 2 rfl ?_
          refine tn_iload_n dX6_foldOperands_63 rfl 3 rfl ?_
          refine tn_iload dX6_foldOperands_64 5 rfl ?_
          refine tn_iconst dX6_foldOperands_66 ?_
          refine tn_iadd dX6_foldOperands_67 ?_
          refine tn_aload_n dX6_foldOperands_68 rfl 1 rfl ?_
          obtain ⟨x43, hx44, hk45, hl46⟩ : ∃ x : Nat, σ0.2.1 53 a = (x : Int) ∧ AR T x 1 192 192 := wf_53 hw0 h_a
          have hk45i : IA T x43 := by unfold IA; omega
          refine tn_getR (ci := 6) (i := 1) (n := 53) (x := x43) dX6_foldOperands_69 rfl lay_6 (by decide) fl6_15 h_a rfl rfl (rc_F F42 (Or.inl (by decide)) (by decide) (rc_F hF (Or.inl (by decide)) (by decide) (hx44))) ?_
          refine tn_iload dX6_foldOperands_72 0 rfl ?_
          refine tn_callSN (M := m_X6_foldOperands) (pc := 74) (ix := 63) (M' := m_X11_at) (As := [.ref x43, .int (iI v7)]) (rest := [.int (iI (i4 + 1)), .int (iI c2), .ref rx1]) dX6_foldOperands_74 ok_X11_at stt_X11_at nl6_63 np_X11_at rfl (Nat.le_of_ble_eq_true rfl) (Nat.le_of_ble_eq_true rfl) rfl (k_X11_at (d) (T := T) (σ := σ37) (x := x43) (i := v7) hk45i (by omega) (by omega) w41 ) (fun r47 T49 σ48 gt50 hp => ?_)
          obtain ⟨v54, rfl, rfl, rfl, f51, f52, f53⟩ := hp
          clear gt50
          clear f52 f53
          show Tn _ _ 77 T σ37 [(5, .int (iI v7)), (0, .ref a), (1, .ref rx1), (2, .int (iI c2)), (3, .int (iI i3)), (4, .int (iI i4))] [.int (iI v54), .int (iI (i4 + 1)), .int (iI c2), .ref rx1] _
          refine tn_callV (M := m_X6_foldOperands) (pc := 77) (ix := 71) (ci := 1) (M' := m_X1_set) (As := [.int (iI c2), .int (iI (i4 + 1)), .int (iI v54)]) (rest := []) dX6_foldOperands_77 ok_X1_set im_X1_set se_X1_set ml6_71 np_X1_set rfl rfl h_rx1 rfl (Nat.le_of_ble_eq_true rfl) (Nat.le_of_ble_eq_true rfl) rfl (k_X1_set (d) (T := T) (σ := σ37) (a := rx1) (k := c2) (c := i4 + 1) (y := v54) h_rx1 (by omega) (by omega) (by omega) w41 (by omega) (by omega)) (fun r55 T57 σ56 gt58 hp => ?_)
          obtain ⟨rfl, rfl, w60, F61⟩ := hp
          clear gt58
          show Tn _ _ 80 T σ56 [(5, .int (iI v7)), (0, .ref a), (1, .ref rx1), (2, .int (iI c2)), (3, .int (iI i3)), (4, .int (iI i4))] [] _
          refine tn_iconst dX6_foldOperands_80 ?_
          refine tn_istore_n (L' := [(3, .int (iI 1)), (5, .int (iI v7)), (0, .ref a), (1, .ref rx1), (2, .int (iI c2)), (4, .int (iI i4))]) dX6_foldOperands_81 rfl (by decide) rfl ?_
          refine tn_iinc (q0 := 5) (L' := [(4, .int (iI (i4 + 2))), (3, .int (iI 1)), (5, .int (iI v7)), (0, .ref a), (1, .ref rx1), (2, .int (iI c2))]) dX6_foldOperands_82 rfl (by decide) rfl ?_
          refine tn_goto (tgt := 5) dX6_foldOperands_85 (by decide) ?_
          exact tn_sub [3, 4, 5, 1, 0] rfl (ih _ (by omega) (1) (i4 + 2) σ56 w60 (((FrC.rfl.trans (FrC.sub hF (by decide))).trans (FrC.sub F42 (by decide))).trans (FrC.sub F61 (by decide))) (by decide) (by omega) rfl)
theorem dX6_foldOperands_88 : decode cX6_foldOperands 88 = .ok (.iload_n 3, 1) := by decide +kernel
theorem dX6_foldOperands_89 : decode cX6_foldOperands 89 = .ok (.ireturn, 1) := by decide +kernel
set_option maxRecDepth 20000 in
theorem k_X6_foldOperands (d : Nat) {T : CT} {σ : MS} {a : Nat} {p1 : Nat} {p2 : Int} (ha : OB T a 6) (h_p1 : OB T p1 1) (t_p1 : (T p1).1 = 50) (h_p2 : -2147483648 ≤ p2 ∧ p2 ≤ 2147483647) (hw : WT T σ) : Tn (d + 2) m_X6_foldOperands 0 T σ [(0, .ref a), (1, .ref p1), (2, .int (iI p2))] [] (fun ro T2 σ2 => ∃ v : Int, ro = some (.int (iI v)) ∧ T = T2 ∧ WT T2 σ2 ∧ FrC T [] σ σ2 ∧ (v = 0 ∨ v = 1)) := by
  refine tn_iconst dX6_foldOperands_0 ?_
  refine tn_istore_n (L' := [(3, .int (iI 0)), (0, .ref a), (1, .ref p1), (2, .int (iI p2))]) dX6_foldOperands_1 rfl (by decide) rfl ?_
  refine tn_iconst dX6_foldOperands_2 ?_
  refine tn_istore (L' := [(4, .int (iI 3)), (3, .int (iI 0)), (0, .ref a), (1, .ref p1), (2, .int (iI p2))]) dX6_foldOperands_3 (by decide) rfl ?_
  refine tn_sub [2, 3, 4, 1, 0] rfl (l_X6_foldOperands_5 (d) (T := T) (σ0 := σ) (a := a) (rx1 := p1) (c2 := p2) ha h_p1 t_p1 (by omega) hw (fun i31 i42 σ3 w6 F7 r8 r9 => ?_) _ (0) (3) σ hw FrC.rfl (by omega) (by omega) rfl)
  show Tn _ _ 88 T σ3 [(0, .ref a), (1, .ref p1), (2, .int (iI p2)), (3, .int (iI i31)), (4, .int (iI i42))] [] _
  refine tn_iload_n dX6_foldOperands_88 rfl 3 rfl ?_
  exact tn_zret (v := i31) rfl (by omega) dX6_foldOperands_89 ⟨_, rfl, rfl, w6, (FrC.rfl.trans (FrC.sub F7 (by decide))), by omega⟩
end
section
theorem cd_X6_foldAct : Cond.code yX6_foldAct cX6_foldAct 4 (some .boolean) ∈ pWW := pw4 (List.mem_of_getElem? (i := 205) rfl) rfl
abbrev m_X6_foldAct : MT := (yX6_foldAct, cX6_foldAct, 4, (some .boolean))
theorem ok_X6_foldAct : pOk m_X6_foldAct := ⟨⟨cd_X6_foldAct, ini_6⟩, by decide +kernel, ⟨by decide +kernel, by decide +kernel⟩, Nat.le_of_ble_eq_true rfl⟩
theorem np_X6_foldAct : (parseMethodDescriptor yX6_foldAct.desc).map (fun d => d.parameters.length) = some 2 := by decide +kernel
theorem im_X6_foldAct : Cond.instanceMethod yX6_foldAct ∈ pWW := pw4 (List.mem_of_getElem? (i := 204) rfl) rfl
theorem se_X6_foldAct : Cond.selects RX6 yX6_foldAct yX6_foldAct ∈ pWW := pws (List.mem_map.mpr ⟨_, lw_pin 47 rfl, rfl⟩) rfl
theorem nl6_74 : (RX6, 74, yX11_isFive, "LineKeeper") ∈ nst_M := List.mem_of_getElem? (i := 18) rfl
theorem nl6_77 : (RX6, 77, yX11_reckon, "LineKeeper") ∈ nst_M := List.mem_of_getElem? (i := 19) rfl
theorem ml6_81 : Cond.methodLink RX6 81 yX1_becomeCopy ∈ pWW := pw4 (List.mem_of_getElem? (i := 212) rfl) rfl
theorem dX6_foldAct_0 : decode cX6_foldAct 0 = .ok (.aload_n 1, 1) := by decide +kernel
theorem dX6_foldAct_1 : decode cX6_foldAct 1 = .ok (.iload_n 2, 1) := by decide +kernel
theorem dX6_foldAct_2 : decode cX6_foldAct 2 = .ok (.iconst 0, 1) := by decide +kernel
theorem dX6_foldAct_3 : decode cX6_foldAct 3 = .ok (.invokevirtual 34, 3) := by decide +kernel
theorem dX6_foldAct_6 : decode cX6_foldAct 6 = .ok (.istore_n 3, 1) := by decide +kernel
theorem dX6_foldAct_7 : decode cX6_foldAct 7 = .ok (.aload_n 1, 1) := by decide +kernel
theorem dX6_foldAct_8 : decode cX6_foldAct 8 = .ok (.iload_n 2, 1) := by decide +kernel
theorem dX6_foldAct_9 : decode cX6_foldAct 9 = .ok (.iconst 3, 1) := by decide +kernel
theorem dX6_foldAct_10 : decode cX6_foldAct 10 = .ok (.invokevirtual 34, 3) := by decide +kernel
theorem dX6_foldAct_13 : decode cX6_foldAct 13 = .ok (.iconst 1, 1) := by decide +kernel
theorem dX6_foldAct_14 : decode cX6_foldAct 14 = .ok (.if_icmp .eq 5, 3) := by decide +kernel
theorem dX6_foldAct_19 : decode cX6_foldAct 19 = .ok (.iload_n 3, 1) := by decide +kernel
theorem dX6_foldAct_20 : decode cX6_foldAct 20 = .ok (.invokestatic 74, 3) := by decide +kernel
theorem dX6_foldAct_23 : decode cX6_foldAct 23 = .ok (.ifCond .eq 38, 3) := by decide +kernel
theorem dX6_foldAct_61 : decode cX6_foldAct 61 = .ok (.iload_n 3, 1) := by decide +kernel
theorem dX6_foldAct_62 : decode cX6_foldAct 62 = .ok (.bipush 9, 2) := by decide +kernel
theorem dX6_foldAct_64 : decode cX6_foldAct 64 = .ok (.if_icmp .ne 29, 3) := by decide +kernel
theorem dX6_foldAct_93 : decode cX6_foldAct 93 = .ok (.iload_n 3, 1) := by decide +kernel
theorem dX6_foldAct_94 : decode cX6_foldAct 94 = .ok (.bipush 9, 2) := by decide +kernel
theorem dX6_foldAct_96 : decode cX6_foldAct 96 = .ok (.if_icmp .ne 7, 3) := by decide +kernel
theorem dX6_foldAct_103 : decode cX6_foldAct 103 = .ok (.iconst 0, 1) := by decide +kernel
theorem dX6_foldAct_104 : decode cX6_foldAct 104 = .ok (.ireturn, 1) := by decide +kernel
theorem dX6_foldAct_67 : decode cX6_foldAct 67 = .ok (.aload_n 1, 1) := by decide +kernel
theorem dX6_foldAct_68 : decode cX6_foldAct 68 = .ok (.iload_n 2, 1) := by decide +kernel
theorem dX6_foldAct_69 : decode cX6_foldAct 69 = .ok (.iconst 4, 1) := by decide +kernel
theorem dX6_foldAct_70 : decode cX6_foldAct 70 = .ok (.invokevirtual 34, 3) := by decide +kernel
theorem dX6_foldAct_73 : decode cX6_foldAct 73 = .ok (.ifCond .ne 20, 3) := by decide +kernel
theorem dX6_foldAct_99 : decode cX6_foldAct 99 = .ok (.iconst 1, 1) := by decide +kernel
theorem dX6_foldAct_100 : decode cX6_foldAct 100 = .ok (.goto 4, 3) := by decide +kernel
theorem dX6_foldAct_76 : decode cX6_foldAct 76 = .ok (.aload_n 1, 1) := by decide +kernel
theorem dX6_foldAct_77 : decode cX6_foldAct 77 = .ok (.iload_n 2, 1) := by decide +kernel
theorem dX6_foldAct_78 : decode cX6_foldAct 78 = .ok (.iconst 0, 1) := by decide +kernel
theorem dX6_foldAct_79 : decode cX6_foldAct 79 = .ok (.bipush 8, 2) := by decide +kernel
theorem dX6_foldAct_81 : decode cX6_foldAct 81 = .ok (.invokevirtual 71, 3) := by decide +kernel
theorem dX6_foldAct_84 : decode cX6_foldAct 84 = .ok (.aload_n 1, 1) := by decide +kernel
theorem dX6_foldAct_85 : decode cX6_foldAct 85 = .ok (.iload_n 2, 1) := by decide +kernel
theorem dX6_foldAct_86 : decode cX6_foldAct 86 = .ok (.iconst 3, 1) := by decide +kernel
theorem dX6_foldAct_87 : decode cX6_foldAct 87 = .ok (.iconst 0, 1) := by decide +kernel
theorem dX6_foldAct_88 : decode cX6_foldAct 88 = .ok (.invokevirtual 71, 3) := by decide +kernel
theorem dX6_foldAct_91 : decode cX6_foldAct 91 = .ok (.iconst 1, 1) := by decide +kernel
theorem dX6_foldAct_92 : decode cX6_foldAct 92 = .ok (.ireturn, 1) := by decide +kernel
theorem dX6_foldAct_26 : decode cX6_foldAct 26 = .ok (.aload_n 1, 1) := by decide +kernel
theorem dX6_foldAct_27 : decode cX6_foldAct 27 = .ok (.iload_n 2, 1) := by decide +kernel
theorem dX6_foldAct_28 : decode cX6_foldAct 28 = .ok (.iconst 5, 1) := by decide +kernel
theorem dX6_foldAct_29 : decode cX6_foldAct 29 = .ok (.invokevirtual 34, 3) := by decide +kernel
theorem dX6_foldAct_32 : decode cX6_foldAct 32 = .ok (.iconst 1, 1) := by decide +kernel
theorem dX6_foldAct_33 : decode cX6_foldAct 33 = .ok (.if_icmp .ne 28, 3) := by decide +kernel
theorem dX6_foldAct_36 : decode cX6_foldAct 36 = .ok (.aload_n 1, 1) := by decide +kernel
theorem dX6_foldAct_37 : decode cX6_foldAct 37 = .ok (.iload_n 2, 1) := by decide +kernel
theorem dX6_foldAct_38 : decode cX6_foldAct 38 = .ok (.iconst 1, 1) := by decide +kernel
theorem dX6_foldAct_39 : decode cX6_foldAct 39 = .ok (.iload_n 3, 1) := by decide +kernel
theorem dX6_foldAct_40 : decode cX6_foldAct 40 = .ok (.aload_n 1, 1) := by decide +kernel
theorem dX6_foldAct_41 : decode cX6_foldAct 41 = .ok (.iload_n 2, 1) := by decide +kernel
theorem dX6_foldAct_42 : decode cX6_foldAct 42 = .ok (.iconst 4, 1) := by decide +kernel
theorem dX6_foldAct_43 : decode cX6_foldAct 43 = .ok (.invokevirtual 34, 3) := by decide +kernel
theorem dX6_foldAct_46 : decode cX6_foldAct 46 = .ok (.aload_n 1, 1) := by decide +kernel
theorem dX6_foldAct_47 : decode cX6_foldAct 47 = .ok (.iload_n 2, 1) := by decide +kernel
theorem dX6_foldAct_48 : decode cX6_foldAct 48 = .ok (.bipush 6, 2) := by decide +kernel
theorem dX6_foldAct_50 : decode cX6_foldAct 50 = .ok (.invokevirtual 34, 3) := by decide +kernel
theorem dX6_foldAct_53 : decode cX6_foldAct 53 = .ok (.invokestatic 77, 3) := by decide +kernel
theorem dX6_foldAct_56 : decode cX6_foldAct 56 = .ok (.invokevirtual 81, 3) := by decide +kernel
theorem dX6_foldAct_59 : decode cX6_foldAct 59 = .ok (.iconst 1, 1) := by decide +kernel
theorem dX6_foldAct_60 : decode cX6_foldAct 60 = .ok (.ireturn, 1) := by decide +kernel
theorem dX6_foldAct_17 : decode cX6_foldAct 17 = .ok (.iconst 0, 1) := by decide +kernel
theorem dX6_foldAct_18 : decode cX6_foldAct 18 = .ok (.ireturn, 1) := by decide +kernel
set_option maxRecDepth 20000 in
theorem k_X6_foldAct (d : Nat) {T : CT} {σ : MS} {a : Nat} {p1 : Nat} {p2 : Int} (ha : OB T a 6) (h_p1 : OB T p1 1) (t_p1 : (T p1).1 = 50) (h_p2 : -2147483648 ≤ p2 ∧ p2 ≤ 2147483647) (hw : WT T σ) : Tn (d + 3) m_X6_foldAct 0 T σ [(0, .ref a), (1, .ref p1), (2, .int (iI p2))] [] (fun ro T2 σ2 => ∃ v : Int, ro = some (.int (iI v)) ∧ T = T2 ∧ WT T2 σ2 ∧ FrC T [] σ σ2 ∧ (v = 0 ∨ v = 1)) := by
  refine tn_aload_n dX6_foldAct_0 rfl 1 rfl ?_
  refine tn_iload_n dX6_foldAct_1 rfl 2 rfl ?_
  refine tn_iconst dX6_foldAct_2 ?_
  refine tn_callV (M := m_X6_foldAct) (pc := 3) (ix := 34) (ci := 1) (M' := m_X1_get) (As := [.int (iI p2), .int (iI 0)]) (rest := []) dX6_foldAct_3 ok_X1_get im_X1_get se_X1_get ml6_34 np_X1_get rfl rfl h_p1 rfl (Nat.le_of_ble_eq_true rfl) (Nat.le_of_ble_eq_true rfl) rfl (k_X1_get (d + 1) (T := T) (σ := σ) (a := p1) (k := p2) (c := 0) h_p1 (by omega) (by decide) hw (by omega)) (fun r1 T3 σ2 gt4 hp => ?_)
  obtain ⟨v6, rfl, rfl, rfl, f5⟩ := hp
  clear gt4
  show Tn _ _ 6 T σ [(0, .ref a), (1, .ref p1), (2, .int (iI p2))] [.int (iI v6)] _
  refine tn_istore_n (L' := [(3, .int (iI v6)), (0, .ref a), (1, .ref p1), (2, .int (iI p2))]) dX6_foldAct_6 rfl (by decide) rfl ?_
  refine tn_aload_n dX6_foldAct_7 rfl 2 rfl ?_
  refine tn_iload_n dX6_foldAct_8 rfl 3 rfl ?_
  refine tn_iconst dX6_foldAct_9 ?_
  refine tn_callV (M := m_X6_foldAct) (pc := 10) (ix := 34) (ci := 1) (M' := m_X1_get) (As := [.int (iI p2), .int (iI 3)]) (rest := []) dX6_foldAct_10 ok_X1_get im_X1_get se_X1_get ml6_34 np_X1_get rfl rfl h_p1 rfl (Nat.le_of_ble_eq_true rfl) (Nat.le_of_ble_eq_true rfl) rfl (k_X1_get (d + 1) (T := T) (σ := σ) (a := p1) (k := p2) (c := 3) h_p1 (by omega) (by decide) hw (by omega)) (fun r7 T9 σ8 gt10 hp => ?_)
  obtain ⟨v12, rfl, rfl, rfl, f11⟩ := hp
  clear gt10
  show Tn _ _ 13 T σ [(3, .int (iI v6)), (0, .ref a), (1, .ref p1), (2, .int (iI p2))] [.int (iI v12)] _
  refine tn_iconst dX6_foldAct_13 ?_
  refine tn_icmp_eq (tgt := 19) dX6_foldAct_14 (by decide) ⟨by omega, by omega⟩ ⟨by decide, by decide⟩ (fun h13 => ?_) (fun h13 => ?_)
  · refine tn_iload_n dX6_foldAct_19 rfl 0 rfl ?_
    refine tn_callSN (M := m_X6_foldAct) (pc := 20) (ix := 74) (M' := m_X11_isFive) (As := [.int (iI v6)]) (rest := []) dX6_foldAct_20 ok_X11_isFive stt_X11_isFive nl6_74 np_X11_isFive rfl (Nat.le_of_ble_eq_true rfl) (Nat.le_of_ble_eq_true rfl) rfl (k_X11_isFive (d + 1) (T := T) (σ := σ) (k := v6) (by omega) hw ) (fun r14 T16 σ15 gt17 hp => ?_)
    obtain ⟨v19, rfl, rfl, rfl, f18⟩ := hp
    clear gt17
    show Tn _ _ 23 T σ [(3, .int (iI v6)), (0, .ref a), (1, .ref p1), (2, .int (iI p2))] [.int (iI v19)] _
    refine tn_if_eq (tgt := 61) dX6_foldAct_23 (by decide) ⟨by omega, by omega⟩ (fun h20 => ?_) (fun h20 => ?_)
    · refine tn_iload_n dX6_foldAct_61 rfl 0 rfl ?_
      refine tn_bipush dX6_foldAct_62 (by decide) ?_
      refine tn_icmp_ne (tgt := 93) dX6_foldAct_64 (by decide) ⟨by omega, by omega⟩ ⟨by decide, by decide⟩ (fun h21 => ?_) (fun h21 => ?_)
      · refine tn_iload_n dX6_foldAct_93 rfl 0 rfl ?_
        refine tn_bipush dX6_foldAct_94 (by decide) ?_
        refine tn_icmp_ne (tgt := 103) dX6_foldAct_96 (by decide) ⟨by omega, by omega⟩ ⟨by decide, by decide⟩ (fun h22 => ?_) (fun h22 => absurd h22 (by omega))
        refine tn_iconst dX6_foldAct_103 ?_
        exact tn_zret (v := 0) rfl (by decide) dX6_foldAct_104 ⟨_, rfl, rfl, hw, FrC.rfl, by omega⟩
      · refine tn_aload_n dX6_foldAct_67 rfl 2 rfl ?_
        refine tn_iload_n dX6_foldAct_68 rfl 3 rfl ?_
        refine tn_iconst dX6_foldAct_69 ?_
        refine tn_callV (M := m_X6_foldAct) (pc := 70) (ix := 34) (ci := 1) (M' := m_X1_get) (As := [.int (iI p2), .int (iI 4)]) (rest := []) dX6_foldAct_70 ok_X1_get im_X1_get se_X1_get ml6_34 np_X1_get rfl rfl h_p1 rfl (Nat.le_of_ble_eq_true rfl) (Nat.le_of_ble_eq_true rfl) rfl (k_X1_get (d + 1) (T := T) (σ := σ) (a := p1) (k := p2) (c := 4) h_p1 (by omega) (by decide) hw (by omega)) (fun r23 T25 σ24 gt26 hp => ?_)
        obtain ⟨v28, rfl, rfl, rfl, f27⟩ := hp
        clear gt26
        show Tn _ _ 73 T σ [(3, .int (iI v6)), (0, .ref a), (1, .ref p1), (2, .int (iI p2))] [.int (iI v28)] _
        refine tn_if_ne (tgt := 93) dX6_foldAct_73 (by decide) ⟨by omega, by omega⟩ (fun h29 => ?_) (fun h29 => ?_)
        · refine tn_iload_n dX6_foldAct_93 rfl 0 rfl ?_
          refine tn_bipush dX6_foldAct_94 (by decide) ?_
          refine tn_icmp_ne (tgt := 103) dX6_foldAct_96 (by decide) ⟨by omega, by omega⟩ ⟨by decide, by decide⟩ (fun h30 => absurd h30 (by omega)) (fun h30 => ?_)
          refine tn_iconst dX6_foldAct_99 ?_
          refine tn_goto (tgt := 104) dX6_foldAct_100 (by decide) ?_
          exact tn_zret (v := 1) rfl (by decide) dX6_foldAct_104 ⟨_, rfl, rfl, hw, FrC.rfl, by omega⟩
        · refine tn_aload_n dX6_foldAct_76 rfl 2 rfl ?_
          refine tn_iload_n dX6_foldAct_77 rfl 3 rfl ?_
          refine tn_iconst dX6_foldAct_78 ?_
          refine tn_bipush dX6_foldAct_79 (by decide) ?_
          refine tn_callV (M := m_X6_foldAct) (pc := 81) (ix := 71) (ci := 1) (M' := m_X1_set) (As := [.int (iI p2), .int (iI 0), .int (iI 8)]) (rest := []) dX6_foldAct_81 ok_X1_set im_X1_set se_X1_set ml6_71 np_X1_set rfl rfl h_p1 rfl (Nat.le_of_ble_eq_true rfl) (Nat.le_of_ble_eq_true rfl) rfl (k_X1_set (d + 1) (T := T) (σ := σ) (a := p1) (k := p2) (c := 0) (y := 8) h_p1 (by omega) (by decide) (by decide) hw (by omega) (by omega)) (fun r31 T33 σ32 gt34 hp => ?_)
          obtain ⟨rfl, rfl, w36, F37⟩ := hp
          clear gt34
          show Tn _ _ 84 T σ32 [(3, .int (iI v6)), (0, .ref a), (1, .ref p1), (2, .int (iI p2))] [] _
          refine tn_aload_n dX6_foldAct_84 rfl 2 rfl ?_
          refine tn_iload_n dX6_foldAct_85 rfl 3 rfl ?_
          refine tn_iconst dX6_foldAct_86 ?_
          refine tn_iconst dX6_foldAct_87 ?_
          refine tn_callV (M := m_X6_foldAct) (pc := 88) (ix := 71) (ci := 1) (M' := m_X1_set) (As := [.int (iI p2), .int (iI 3), .int (iI 0)]) (rest := []) dX6_foldAct_88 ok_X1_set im_X1_set se_X1_set ml6_71 np_X1_set rfl rfl h_p1 rfl (Nat.le_of_ble_eq_true rfl) (Nat.le_of_ble_eq_true rfl) rfl (k_X1_set (d + 1) (T := T) (σ := σ32) (a := p1) (k := p2) (c := 3) (y := 0) h_p1 (by omega) (by decide) (by decide) w36 (by omega) (by omega)) (fun r38 T40 σ39 gt41 hp => ?_)
          obtain ⟨rfl, rfl, w43, F44⟩ := hp
          clear gt41
          show Tn _ _ 91 T σ39 [(3, .int (iI v6)), (0, .ref a), (1, .ref p1), (2, .int (iI p2))] [] _
          refine tn_iconst dX6_foldAct_91 ?_
          exact tn_zret (v := 1) rfl (by decide) dX6_foldAct_92 ⟨_, rfl, rfl, w43, ((FrC.rfl.trans (FrC.sub F37 (by decide))).trans (FrC.sub F44 (by decide))), by omega⟩
    · refine tn_aload_n dX6_foldAct_26 rfl 2 rfl ?_
      refine tn_iload_n dX6_foldAct_27 rfl 3 rfl ?_
      refine tn_iconst dX6_foldAct_28 ?_
      refine tn_callV (M := m_X6_foldAct) (pc := 29) (ix := 34) (ci := 1) (M' := m_X1_get) (As := [.int (iI p2), .int (iI 5)]) (rest := []) dX6_foldAct_29 ok_X1_get im_X1_get se_X1_get ml6_34 np_X1_get rfl rfl h_p1 rfl (Nat.le_of_ble_eq_true rfl) (Nat.le_of_ble_eq_true rfl) rfl (k_X1_get (d + 1) (T := T) (σ := σ) (a := p1) (k := p2) (c := 5) h_p1 (by omega) (by decide) hw (by omega)) (fun r45 T47 σ46 gt48 hp => ?_)
      obtain ⟨v50, rfl, rfl, rfl, f49⟩ := hp
      clear gt48
      show Tn _ _ 32 T σ [(3, .int (iI v6)), (0, .ref a), (1, .ref p1), (2, .int (iI p2))] [.int (iI v50)] _
      refine tn_iconst dX6_foldAct_32 ?_
      refine tn_icmp_ne (tgt := 61) dX6_foldAct_33 (by decide) ⟨by omega, by omega⟩ ⟨by decide, by decide⟩ (fun h51 => ?_) (fun h51 => ?_)
      · refine tn_iload_n dX6_foldAct_61 rfl 0 rfl ?_
        refine tn_bipush dX6_foldAct_62 (by decide) ?_
        refine tn_icmp_ne (tgt := 93) dX6_foldAct_64 (by decide) ⟨by omega, by omega⟩ ⟨by decide, by decide⟩ (fun h52 => ?_) (fun h52 => ?_)
        · refine tn_iload_n dX6_foldAct_93 rfl 0 rfl ?_
          refine tn_bipush dX6_foldAct_94 (by decide) ?_
          refine tn_icmp_ne (tgt := 103) dX6_foldAct_96 (by decide) ⟨by omega, by omega⟩ ⟨by decide, by decide⟩ (fun h53 => ?_) (fun h53 => absurd h53 (by omega))
          refine tn_iconst dX6_foldAct_103 ?_
          exact tn_zret (v := 0) rfl (by decide) dX6_foldAct_104 ⟨_, rfl, rfl, hw, FrC.rfl, by omega⟩
        · refine tn_aload_n dX6_foldAct_67 rfl 2 rfl ?_
          refine tn_iload_n dX6_foldAct_68 rfl 3 rfl ?_
          refine tn_iconst dX6_foldAct_69 ?_
          refine tn_callV (M := m_X6_foldAct) (pc := 70) (ix := 34) (ci := 1) (M' := m_X1_get) (As := [.int (iI p2), .int (iI 4)]) (rest := []) dX6_foldAct_70 ok_X1_get im_X1_get se_X1_get ml6_34 np_X1_get rfl rfl h_p1 rfl (Nat.le_of_ble_eq_true rfl) (Nat.le_of_ble_eq_true rfl) rfl (k_X1_get (d + 1) (T := T) (σ := σ) (a := p1) (k := p2) (c := 4) h_p1 (by omega) (by decide) hw (by omega)) (fun r54 T56 σ55 gt57 hp => ?_)
          obtain ⟨v59, rfl, rfl, rfl, f58⟩ := hp
          clear gt57
          show Tn _ _ 73 T σ [(3, .int (iI v6)), (0, .ref a), (1, .ref p1), (2, .int (iI p2))] [.int (iI v59)] _
          refine tn_if_ne (tgt := 93) dX6_foldAct_73 (by decide) ⟨by omega, by omega⟩ (fun h60 => ?_) (fun h60 => ?_)
          · refine tn_iload_n dX6_foldAct_93 rfl 0 rfl ?_
            refine tn_bipush dX6_foldAct_94 (by decide) ?_
            refine tn_icmp_ne (tgt := 103) dX6_foldAct_96 (by decide) ⟨by omega, by omega⟩ ⟨by decide, by decide⟩ (fun h61 => absurd h61 (by omega)) (fun h61 => ?_)
            refine tn_iconst dX6_foldAct_99 ?_
            refine tn_goto (tgt := 104) dX6_foldAct_100 (by decide) ?_
            exact tn_zret (v := 1) rfl (by decide) dX6_foldAct_104 ⟨_, rfl, rfl, hw, FrC.rfl, by omega⟩
          · refine tn_aload_n dX6_foldAct_76 rfl 2 rfl ?_
            refine tn_iload_n dX6_foldAct_77 rfl 3 rfl ?_
            refine tn_iconst dX6_foldAct_78 ?_
            refine tn_bipush dX6_foldAct_79 (by decide) ?_
            refine tn_callV (M := m_X6_foldAct) (pc := 81) (ix := 71) (ci := 1) (M' := m_X1_set) (As := [.int (iI p2), .int (iI 0), .int (iI 8)]) (rest := []) dX6_foldAct_81 ok_X1_set im_X1_set se_X1_set ml6_71 np_X1_set rfl rfl h_p1 rfl (Nat.le_of_ble_eq_true rfl) (Nat.le_of_ble_eq_true rfl) rfl (k_X1_set (d + 1) (T := T) (σ := σ) (a := p1) (k := p2) (c := 0) (y := 8) h_p1 (by omega) (by decide) (by decide) hw (by omega) (by omega)) (fun r62 T64 σ63 gt65 hp => ?_)
            obtain ⟨rfl, rfl, w67, F68⟩ := hp
            clear gt65
            show Tn _ _ 84 T σ63 [(3, .int (iI v6)), (0, .ref a), (1, .ref p1), (2, .int (iI p2))] [] _
            refine tn_aload_n dX6_foldAct_84 rfl 2 rfl ?_
            refine tn_iload_n dX6_foldAct_85 rfl 3 rfl ?_
            refine tn_iconst dX6_foldAct_86 ?_
            refine tn_iconst dX6_foldAct_87 ?_
            refine tn_callV (M := m_X6_foldAct) (pc := 88) (ix := 71) (ci := 1) (M' := m_X1_set) (As := [.int (iI p2), .int (iI 3), .int (iI 0)]) (rest := []) dX6_foldAct_88 ok_X1_set im_X1_set se_X1_set ml6_71 np_X1_set rfl rfl h_p1 rfl (Nat.le_of_ble_eq_true rfl) (Nat.le_of_ble_eq_true rfl) rfl (k_X1_set (d + 1) (T := T) (σ := σ63) (a := p1) (k := p2) (c := 3) (y := 0) h_p1 (by omega) (by decide) (by decide) w67 (by omega) (by omega)) (fun r69 T71 σ70 gt72 hp => ?_)
            obtain ⟨rfl, rfl, w74, F75⟩ := hp
            clear gt72
            show Tn _ _ 91 T σ70 [(3, .int (iI v6)), (0, .ref a), (1, .ref p1), (2, .int (iI p2))] [] _
            refine tn_iconst dX6_foldAct_91 ?_
            exact tn_zret (v := 1) rfl (by decide) dX6_foldAct_92 ⟨_, rfl, rfl, w74, ((FrC.rfl.trans (FrC.sub F68 (by decide))).trans (FrC.sub F75 (by decide))), by omega⟩
      · refine tn_aload_n dX6_foldAct_36 rfl 2 rfl ?_
        refine tn_iload_n dX6_foldAct_37 rfl 3 rfl ?_
        refine tn_iconst dX6_foldAct_38 ?_
        refine tn_iload_n dX6_foldAct_39 rfl 0 rfl ?_
        refine tn_aload_n dX6_foldAct_40 rfl 2 rfl ?_
        refine tn_iload_n dX6_foldAct_41 rfl 3 rfl ?_
        refine tn_iconst dX6_foldAct_42 ?_
        refine tn_callV (M := m_X6_foldAct) (pc := 43) (ix := 34) (ci := 1) (M' := m_X1_get) (As := [.int (iI p2), .int (iI 4)]) (rest := [.int (iI v6), .int (iI 1), .int (iI p2), .ref p1]) dX6_foldAct_43 ok_X1_get im_X1_get se_X1_get ml6_34 np_X1_get rfl rfl h_p1 rfl (Nat.le_of_ble_eq_true rfl) (Nat.le_of_ble_eq_true rfl) rfl (k_X1_get (d + 1) (T := T) (σ := σ) (a := p1) (k := p2) (c := 4) h_p1 (by omega) (by decide) hw (by omega)) (fun r76 T78 σ77 gt79 hp => ?_)
        obtain ⟨v81, rfl, rfl, rfl, f80⟩ := hp
        clear gt79
        show Tn _ _ 46 T σ [(3, .int (iI v6)), (0, .ref a), (1, .ref p1), (2, .int (iI p2))] [.int (iI v81), .int (iI v6), .int (iI 1), .int (iI p2), .ref p1] _
        refine tn_aload_n dX6_foldAct_46 rfl 2 rfl ?_
        refine tn_iload_n dX6_foldAct_47 rfl 3 rfl ?_
        refine tn_bipush dX6_foldAct_48 (by decide) ?_
        refine tn_callV (M := m_X6_foldAct) (pc := 50) (ix := 34) (ci := 1) (M' := m_X1_get) (As := [.int (iI p2), .int (iI 6)]) (rest := [.int (iI v81), .int (iI v6), .int (iI 1), .int (iI p2), .ref p1]) dX6_foldAct_50 ok_X1_get im_X1_get se_X1_get ml6_34 np_X1_get rfl rfl h_p1 rfl (Nat.le_of_ble_eq_true rfl) (Nat.le_of_ble_eq_true rfl) rfl (k_X1_get (d + 1) (T := T) (σ := σ) (a := p1) (k := p2) (c := 6) h_p1 (by omega) (by decide) hw (by omega)) (fun r82 T84 σ83 gt85 hp => ?_)
        obtain ⟨v87, rfl, rfl, rfl, f86⟩ := hp
        clear gt85
        show Tn _ _ 53 T σ [(3, .int (iI v6)), (0, .ref a), (1, .ref p1), (2, .int (iI p2))] [.int (iI v87), .int (iI v81), .int (iI v6), .int (iI 1), .int (iI p2), .ref p1] _
        refine tn_callSN (M := m_X6_foldAct) (pc := 53) (ix := 77) (M' := m_X11_reckon) (As := [.int (iI v6), .int (iI v81), .int (iI v87)]) (rest := [.int (iI 1), .int (iI p2), .ref p1]) dX6_foldAct_53 ok_X11_reckon stt_X11_reckon nl6_77 np_X11_reckon rfl (Nat.le_of_ble_eq_true rfl) (Nat.le_of_ble_eq_true rfl) rfl (k_X11_reckon (d + 1) (T := T) (σ := σ) (k := v6) (x := v81) (y := v87) (by omega) (by omega) (by omega) hw ) (fun r88 T90 σ89 gt91 hp => ?_)
        obtain ⟨v93, rfl, rfl, rfl, f92⟩ := hp
        clear gt91
        show Tn _ _ 56 T σ [(3, .int (iI v6)), (0, .ref a), (1, .ref p1), (2, .int (iI p2))] [.int (iI v93), .int (iI 1), .int (iI p2), .ref p1] _
        refine tn_callV (M := m_X6_foldAct) (pc := 56) (ix := 81) (ci := 1) (M' := m_X1_becomeCopy) (As := [.int (iI p2), .int (iI 1), .int (iI v93)]) (rest := []) dX6_foldAct_56 ok_X1_becomeCopy im_X1_becomeCopy se_X1_becomeCopy ml6_81 np_X1_becomeCopy rfl rfl h_p1 rfl (Nat.le_of_ble_eq_true rfl) (Nat.le_of_ble_eq_true rfl) rfl (k_X1_becomeCopy (d) (T := T) (σ := σ) (a := p1) (k := p2) (y := 1) (z := v93) h_p1 t_p1 (by omega) (by decide) (by omega) hw ) (fun r94 T96 σ95 gt97 hp => ?_)
        obtain ⟨rfl, rfl, w99, F100⟩ := hp
        clear gt97
        show Tn _ _ 59 T σ95 [(3, .int (iI v6)), (0, .ref a), (1, .ref p1), (2, .int (iI p2))] [] _
        refine tn_iconst dX6_foldAct_59 ?_
        exact tn_zret (v := 1) rfl (by decide) dX6_foldAct_60 ⟨_, rfl, rfl, w99, (FrC.rfl.trans (FrC.sub F100 (by decide))), by omega⟩
  · refine tn_iconst dX6_foldAct_17 ?_
    exact tn_zret (v := 0) rfl (by decide) dX6_foldAct_18 ⟨_, rfl, rfl, hw, FrC.rfl, by omega⟩
end
section
theorem cd_X6_goesOut : Cond.code yX6_goesOut cX6_goesOut 3 (some .boolean) ∈ pWW := pw4 (List.mem_of_getElem? (i := 225) rfl) rfl
abbrev m_X6_goesOut : MT := (yX6_goesOut, cX6_goesOut, 3, (some .boolean))
theorem ok_X6_goesOut : pOk m_X6_goesOut := ⟨⟨cd_X6_goesOut, ini_6⟩, by decide +kernel, ⟨by decide +kernel, by decide +kernel⟩, Nat.le_of_ble_eq_true rfl⟩
theorem np_X6_goesOut : (parseMethodDescriptor yX6_goesOut.desc).map (fun d => d.parameters.length) = some 2 := by decide +kernel
theorem im_X6_goesOut : Cond.instanceMethod yX6_goesOut ∈ pWW := pw4 (List.mem_of_getElem? (i := 224) rfl) rfl
theorem se_X6_goesOut : Cond.selects RX6 yX6_goesOut yX6_goesOut ∈ pWW := pws (List.mem_map.mpr ⟨_, lw_pin 49 rfl, rfl⟩) rfl
theorem dX6_goesOut_0 : decode cX6_goesOut 0 = .ok (.aload_n 1, 1) := by decide +kernel
theorem dX6_goesOut_1 : decode cX6_goesOut 1 = .ok (.iload_n 2, 1) := by decide +kernel
theorem dX6_goesOut_2 : decode cX6_goesOut 2 = .ok (.iconst 0, 1) := by decide +kernel
theorem dX6_goesOut_3 : decode cX6_goesOut 3 = .ok (.invokevirtual 34, 3) := by decide +kernel
theorem dX6_goesOut_6 : decode cX6_goesOut 6 = .ok (.bipush 9, 2) := by decide +kernel
theorem dX6_goesOut_8 : decode cX6_goesOut 8 = .ok (.if_icmp .ne 17, 3) := by decide +kernel
theorem dX6_goesOut_25 : decode cX6_goesOut 25 = .ok (.iconst 0, 1) := by decide +kernel
theorem dX6_goesOut_26 : decode cX6_goesOut 26 = .ok (.ireturn, 1) := by decide +kernel
theorem dX6_goesOut_11 : decode cX6_goesOut 11 = .ok (.aload_n 1, 1) := by decide +kernel
theorem dX6_goesOut_12 : decode cX6_goesOut 12 = .ok (.iload_n 2, 1) := by decide +kernel
theorem dX6_goesOut_13 : decode cX6_goesOut 13 = .ok (.iconst 3, 1) := by decide +kernel
theorem dX6_goesOut_14 : decode cX6_goesOut 14 = .ok (.invokevirtual 34, 3) := by decide +kernel
theorem dX6_goesOut_17 : decode cX6_goesOut 17 = .ok (.iconst 1, 1) := by decide +kernel
theorem dX6_goesOut_18 : decode cX6_goesOut 18 = .ok (.if_icmp .ne 7, 3) := by decide +kernel
theorem dX6_goesOut_21 : decode cX6_goesOut 21 = .ok (.iconst 1, 1) := by decide +kernel
theorem dX6_goesOut_22 : decode cX6_goesOut 22 = .ok (.goto 4, 3) := by decide +kernel
set_option maxRecDepth 20000 in
theorem k_X6_goesOut (d : Nat) {T : CT} {σ : MS} {a : Nat} {p1 : Nat} {p2 : Int} (ha : OB T a 6) (h_p1 : OB T p1 1) (t_p1 : (T p1).1 = 50) (h_p2 : -2147483648 ≤ p2 ∧ p2 ≤ 2147483647) (hw : WT T σ) : Tn (d + 2) m_X6_goesOut 0 T σ [(0, .ref a), (1, .ref p1), (2, .int (iI p2))] [] (fun ro T2 σ2 => ∃ v : Int, ro = some (.int (iI v)) ∧ T = T2 ∧ σ = σ2 ∧ (v = 0 ∨ v = 1)) := by
  refine tn_aload_n dX6_goesOut_0 rfl 1 rfl ?_
  refine tn_iload_n dX6_goesOut_1 rfl 2 rfl ?_
  refine tn_iconst dX6_goesOut_2 ?_
  refine tn_callV (M := m_X6_goesOut) (pc := 3) (ix := 34) (ci := 1) (M' := m_X1_get) (As := [.int (iI p2), .int (iI 0)]) (rest := []) dX6_goesOut_3 ok_X1_get im_X1_get se_X1_get ml6_34 np_X1_get rfl rfl h_p1 rfl (Nat.le_of_ble_eq_true rfl) (Nat.le_of_ble_eq_true rfl) rfl (k_X1_get (d) (T := T) (σ := σ) (a := p1) (k := p2) (c := 0) h_p1 (by omega) (by decide) hw (by omega)) (fun r1 T3 σ2 gt4 hp => ?_)
  obtain ⟨v6, rfl, rfl, rfl, f5⟩ := hp
  clear gt4
  show Tn _ _ 6 T σ [(0, .ref a), (1, .ref p1), (2, .int (iI p2))] [.int (iI v6)] _
  refine tn_bipush dX6_goesOut_6 (by decide) ?_
  refine tn_icmp_ne (tgt := 25) dX6_goesOut_8 (by decide) ⟨by omega, by omega⟩ ⟨by decide, by decide⟩ (fun h7 => ?_) (fun h7 => ?_)
  · refine tn_iconst dX6_goesOut_25 ?_
    exact tn_zret (v := 0) rfl (by decide) dX6_goesOut_26 ⟨_, rfl, rfl, rfl, by omega⟩
  · refine tn_aload_n dX6_goesOut_11 rfl 1 rfl ?_
    refine tn_iload_n dX6_goesOut_12 rfl 2 rfl ?_
    refine tn_iconst dX6_goesOut_13 ?_
    refine tn_callV (M := m_X6_goesOut) (pc := 14) (ix := 34) (ci := 1) (M' := m_X1_get) (As := [.int (iI p2), .int (iI 3)]) (rest := []) dX6_goesOut_14 ok_X1_get im_X1_get se_X1_get ml6_34 np_X1_get rfl rfl h_p1 rfl (Nat.le_of_ble_eq_true rfl) (Nat.le_of_ble_eq_true rfl) rfl (k_X1_get (d) (T := T) (σ := σ) (a := p1) (k := p2) (c := 3) h_p1 (by omega) (by decide) hw (by omega)) (fun r8 T10 σ9 gt11 hp => ?_)
    obtain ⟨v13, rfl, rfl, rfl, f12⟩ := hp
    clear gt11
    show Tn _ _ 17 T σ [(0, .ref a), (1, .ref p1), (2, .int (iI p2))] [.int (iI v13)] _
    refine tn_iconst dX6_goesOut_17 ?_
    refine tn_icmp_ne (tgt := 25) dX6_goesOut_18 (by decide) ⟨by omega, by omega⟩ ⟨by decide, by decide⟩ (fun h14 => ?_) (fun h14 => ?_)
    · refine tn_iconst dX6_goesOut_25 ?_
      exact tn_zret (v := 0) rfl (by decide) dX6_goesOut_26 ⟨_, rfl, rfl, rfl, by omega⟩
    · refine tn_iconst dX6_goesOut_21 ?_
      refine tn_goto (tgt := 26) dX6_goesOut_22 (by decide) ?_
      exact tn_zret (v := 1) rfl (by decide) dX6_goesOut_26 ⟨_, rfl, rfl, rfl, by omega⟩
end
section
theorem cd_X6_learn : Cond.code yX6_learn cX6_learn 6 none ∈ pWW := pw4 (List.mem_of_getElem? (i := 219) rfl) rfl
abbrev m_X6_learn : MT := (yX6_learn, cX6_learn, 6, none)
theorem ok_X6_learn : pOk m_X6_learn := ⟨⟨cd_X6_learn, ini_6⟩, by decide +kernel, ⟨by decide +kernel, by decide +kernel⟩, Nat.le_of_ble_eq_true rfl⟩
theorem np_X6_learn : (parseMethodDescriptor yX6_learn.desc).map (fun d => d.parameters.length) = some 2 := by decide +kernel
theorem im_X6_learn : Cond.instanceMethod yX6_learn ∈ pWW := pw4 (List.mem_of_getElem? (i := 218) rfl) rfl
theorem se_X6_learn : Cond.selects RX6 yX6_learn yX6_learn ∈ pWW := pws (List.mem_map.mpr ⟨_, lw_pin 48 rfl, rfl⟩) rfl
theorem ml6_84 : Cond.methodLink RX6 84 yX1_writtenBy ∈ pWW := pw4 (List.mem_of_getElem? (i := 220) rfl) rfl
theorem nl6_88 : (RX6, 88, yX11_put, "LineKeeper") ∈ nst_M := List.mem_of_getElem? (i := 20) rfl
theorem dX6_learn_0 : decode cX6_learn 0 = .ok (.aload_n 1, 1) := by decide +kernel
theorem dX6_learn_1 : decode cX6_learn 1 = .ok (.iload_n 2, 1) := by decide +kernel
theorem dX6_learn_2 : decode cX6_learn 2 = .ok (.invokevirtual 84, 3) := by decide +kernel
theorem dX6_learn_5 : decode cX6_learn 5 = .ok (.istore_n 3, 1) := by decide +kernel
theorem dX6_learn_6 : decode cX6_learn 6 = .ok (.iload_n 3, 1) := by decide +kernel
theorem dX6_learn_7 : decode cX6_learn 7 = .ok (.iconst (-1), 1) := by decide +kernel
theorem dX6_learn_8 : decode cX6_learn 8 = .ok (.if_icmp .ne 4, 3) := by decide +kernel
theorem dX6_learn_12 : decode cX6_learn 12 = .ok (.aload_n 0, 1) := by decide +kernel
theorem dX6_learn_13 : decode cX6_learn 13 = .ok (.getfield 9, 3) := by decide +kernel
theorem dX6_learn_16 : decode cX6_learn 16 = .ok (.iload_n 3, 1) := by decide +kernel
theorem dX6_learn_17 : decode cX6_learn 17 = .ok (.iconst 0, 1) := by decide +kernel
theorem dX6_learn_18 : decode cX6_learn 18 = .ok (.invokestatic 88, 3) := by decide +kernel
theorem dX6_learn_21 : decode cX6_learn 21 = .ok (.iconst 0, 1) := by decide +kernel
theorem dX6_learn_22 : decode cX6_learn 22 = .ok (.istore 4, 2) := by decide +kernel
theorem dX6_learn_24 : decode cX6_learn 24 = .ok (.iload 4, 2) := by decide +kernel
theorem dX6_learn_26 : decode cX6_learn 26 = .ok (.aload_n 0, 1) := by decide +kernel
theorem dX6_learn_27 : decode cX6_learn 27 = .ok (.getfield 9, 3) := by decide +kernel
theorem dX6_learn_30 : decode cX6_learn 30 = .ok (.arraylength, 1) := by decide +kernel
theorem dX6_learn_31 : decode cX6_learn 31 = .ok (.if_icmp .ge 41, 3) := by decide +kernel
theorem dX6_learn_34 : decode cX6_learn 34 = .ok (.aload_n 0, 1) := by decide +kernel
theorem dX6_learn_35 : decode cX6_learn 35 = .ok (.getfield 9, 3) := by decide +kernel
theorem dX6_learn_38 : decode cX6_learn 38 = .ok (.iload 4, 2) := by decide +kernel
theorem dX6_learn_40 : decode cX6_learn 40 = .ok (.iaload, 1) := by decide +kernel
theorem dX6_learn_41 : decode cX6_learn 41 = .ok (.iconst 2, 1) := by decide +kernel
theorem dX6_learn_42 : decode cX6_learn 42 = .ok (.if_icmp .ne 24, 3) := by decide +kernel
theorem dX6_learn_66 : decode cX6_learn 66 = .ok (.iinc 4 1, 3) := by decide +kernel
theorem dX6_learn_69 : decode cX6_learn 69 = .ok (.goto (-45), 3) := by decide +kernel
theorem dX6_learn_45 : decode cX6_learn 45 = .ok (.aload_n 0, 1) := by decide +kernel
theorem dX6_learn_46 : decode cX6_learn 46 = .ok (.getfield 15, 3) := by decide +kernel
theorem dX6_learn_49 : decode cX6_learn 49 = .ok (.iload 4, 2) := by decide +kernel
theorem dX6_learn_51 : decode cX6_learn 51 = .ok (.invokestatic 63, 3) := by decide +kernel
theorem dX6_learn_54 : decode cX6_learn 54 = .ok (.iload_n 3, 1) := by decide +kernel
theorem dX6_learn_55 : decode cX6_learn 55 = .ok (.if_icmp .ne 11, 3) := by decide +kernel
theorem dX6_learn_58 : decode cX6_learn 58 = .ok (.aload_n 0, 1) := by decide +kernel
theorem dX6_learn_59 : decode cX6_learn 59 = .ok (.getfield 9, 3) := by decide +kernel
theorem dX6_learn_62 : decode cX6_learn 62 = .ok (.iload 4, 2) := by decide +kernel
theorem dX6_learn_64 : decode cX6_learn 64 = .ok (.iconst 0, 1) := by decide +kernel
theorem dX6_learn_65 : decode cX6_learn 65 = .ok (.iastore, 1) := by decide +kernel
set_option maxRecDepth 20000 in
theorem l_X6_learn_24 (d : Nat) {T : CT} {σ0 : MS} {a : Nat} {rx1 : Nat} {c2 : Int} {c3 : Int} {post : Option Value → CT → MS → Prop} (h_a : OB T a 6) (h_rx1 : OB T rx1 1) (t_rx1 : (T rx1).1 = 50) (r_c2 : -2147483648 ≤ c2 ∧ c2 ≤ 2147483647) (r_c3 : -2147483648 ≤ c3 ∧ c3 ≤ 2147483647) (hw0 : WT T σ0) (hx_72 : ∀ (i4 : Int) (σ : MS) , (WT T σ) → (FrC T [] σ0 σ) → (0 ≤ i4 ∧ i4 ≤ 2147483647) → Tn (d + 3) m_X6_learn 72 T σ [(0, .ref a), (1, .ref rx1), (2, .int (iI c2)), (3, .int (iI c3)), (4, .int (iI i4))] [] post) : ∀ (n : Nat) (i4 : Int) (σ : MS) , (WT T σ) → (FrC T [] σ0 σ) → (0 ≤ i4 ∧ i4 ≤ 2147483647) → (2147483700 - i4).toNat = n → Tn (d + 3) m_X6_learn 24 T σ [(0, .ref a), (1, .ref rx1), (2, .int (iI c2)), (3, .int (iI c3)), (4, .int (iI i4))] [] post := by
  intro n
  induction n using Nat.strongRecOn with
  | _ n ih =>
    intro i4 σ hw hF r_i4 hm
    refine tn_iload dX6_learn_24 4 rfl ?_
    refine tn_aload_n dX6_learn_26 rfl 0 rfl ?_
    obtain ⟨x1, hx2, hk3, hl4⟩ : ∃ x : Nat, σ0.2.1 52 a = (x : Int) ∧ AR T x 1 192 192 := wf_52 hw0 h_a
    have hk3i : IA T x1 := by unfold IA; omega
    refine tn_getR (ci := 6) (i := 0) (n := 52) (x := x1) dX6_learn_27 rfl lay_6 (by decide) fl6_9 h_a rfl rfl (rc_F hF (Or.inl (by decide)) (by decide) (hx2)) ?_
    refine tn_alenX dX6_learn_30 (Or.inl hk3i) ?_
    refine tn_icmp_ge (tgt := 72) dX6_learn_31 (by decide) ⟨by omega, by omega⟩ ⟨by omega, by omega⟩ (fun h5 => ?_) (fun h5 => ?_)
    · exact tn_sub [0, 1, 2, 3, 4] rfl (hx_72 (i4) σ hw (FrC.rfl.trans (FrC.sub hF (by decide))) (by omega))
    · refine tn_aload_n dX6_learn_34 rfl 0 rfl ?_
      refine tn_getR (ci := 6) (i := 0) (n := 52) (x := x1) dX6_learn_35 rfl lay_6 (by decide) fl6_9 h_a rfl rfl (rc_F hF (Or.inl (by decide)) (by decide) (hx2)) ?_
      refine tn_iload dX6_learn_38 4 rfl ?_
      refine tn_ialdX (z := i4) hw dX6_learn_40 hk3i (by omega) (by omega) (by omega) (fun v6 g7q g7 g7k => ?_)
      clear g7k g7q
      refine tn_iconst dX6_learn_41 ?_
      refine tn_icmp_ne (tgt := 66) dX6_learn_42 (by decide) ⟨by omega, by omega⟩ ⟨by decide, by decide⟩ (fun h8 => ?_) (fun h8 => ?_)
      · refine tn_iinc (q0 := 4) (L' := [(4, .int (iI (i4 + 1))), (0, .ref a), (1, .ref rx1), (2, .int (iI c2)), (3, .int (iI c3))]) dX6_learn_66 rfl (by decide) rfl ?_
        refine tn_goto (tgt := 24) dX6_learn_69 (by decide) ?_
        exact tn_sub [1, 2, 3, 4, 0] rfl (ih _ (by omega) (i4 + 1) σ hw (FrC.rfl.trans (FrC.sub hF (by decide))) (by omega) rfl)
      · refine tn_aload_n dX6_learn_45 rfl 0 rfl ?_
        obtain ⟨x9, hx10, hk11, hl12⟩ : ∃ x : Nat, σ0.2.1 53 a = (x : Int) ∧ AR T x 1 192 192 := wf_53 hw0 h_a
        have hk11i : IA T x9 := by unfold IA; omega
        refine tn_getR (ci := 6) (i := 1) (n := 53) (x := x9) dX6_learn_46 rfl lay_6 (by decide) fl6_15 h_a rfl rfl (rc_F hF (Or.inl (by decide)) (by decide) (hx10)) ?_
        refine tn_iload dX6_learn_49 4 rfl ?_
        refine tn_callSN (M := m_X6_learn) (pc := 51) (ix := 63) (M' := m_X11_at) (As := [.ref x9, .int (iI i4)]) (rest := []) dX6_learn_51 ok_X11_at stt_X11_at nl6_63 np_X11_at rfl (Nat.le_of_ble_eq_true rfl) (Nat.le_of_ble_eq_true rfl) rfl (k_X11_at (d + 1) (T := T) (σ := σ) (x := x9) (i := i4) hk11i (by omega) (by omega) hw ) (fun r13 T15 σ14 gt16 hp => ?_)
        obtain ⟨v20, rfl, rfl, rfl, f17, f18, f19⟩ := hp
        clear gt16
        clear f18 f19
        show Tn _ _ 54 T σ [(0, .ref a), (1, .ref rx1), (2, .int (iI c2)), (3, .int (iI c3)), (4, .int (iI i4))] [.int (iI v20)] _
        refine tn_iload_n dX6_learn_54 rfl 3 rfl ?_
        refine tn_icmp_ne (tgt := 66) dX6_learn_55 (by decide) ⟨by omega, by omega⟩ ⟨by omega, by omega⟩ (fun h21 => ?_) (fun h21 => ?_)
        · refine tn_iinc (q0 := 4) (L' := [(4, .int (iI (i4 + 1))), (0, .ref a), (1, .ref rx1), (2, .int (iI c2)), (3, .int (iI c3))]) dX6_learn_66 rfl (by decide) rfl ?_
          refine tn_goto (tgt := 24) dX6_learn_69 (by decide) ?_
          exact tn_sub [1, 2, 3, 4, 0] rfl (ih _ (by omega) (i4 + 1) σ hw (FrC.rfl.trans (FrC.sub hF (by decide))) (by omega) rfl)
        · refine tn_aload_n dX6_learn_58 rfl 0 rfl ?_
          refine tn_getR (ci := 6) (i := 0) (n := 52) (x := x1) dX6_learn_59 rfl lay_6 (by decide) fl6_9 h_a rfl rfl (rc_F hF (Or.inl (by decide)) (by decide) (hx2)) ?_
          refine tn_iload dX6_learn_62 4 rfl ?_
          refine tn_iconst dX6_learn_64 ?_
          refine tn_iast (z := i4) (v := 0) dX6_learn_65 hk3i (by omega) (by omega) (by omega) ?_
          refine tn_iinc (q0 := 4) (L' := [(4, .int (iI (i4 + 1))), (0, .ref a), (1, .ref rx1), (2, .int (iI c2)), (3, .int (iI c3))]) dX6_learn_66 rfl (by decide) rfl ?_
          refine tn_goto (tgt := 24) dX6_learn_69 (by decide) ?_
          exact tn_sub [1, 2, 3, 4, 0] rfl (ih _ (by omega) (i4 + 1) (sA (1000 + x1) (i4) (0) σ) (hw.arr (Or.inl hk3i) vok_0) ((FrC.rfl.trans (FrC.sub hF (by decide))).arr (hk_no (nh_k hk3 (by unfold HT; omega)))) (by omega) rfl)
theorem dX6_learn_72 : decode cX6_learn 72 = .ok (.aload_n 1, 1) := by decide +kernel
theorem dX6_learn_73 : decode cX6_learn 73 = .ok (.iload_n 2, 1) := by decide +kernel
theorem dX6_learn_74 : decode cX6_learn 74 = .ok (.iconst 3, 1) := by decide +kernel
theorem dX6_learn_75 : decode cX6_learn 75 = .ok (.invokevirtual 34, 3) := by decide +kernel
theorem dX6_learn_78 : decode cX6_learn 78 = .ok (.istore 4, 2) := by decide +kernel
theorem dX6_learn_80 : decode cX6_learn 80 = .ok (.aload_n 1, 1) := by decide +kernel
theorem dX6_learn_81 : decode cX6_learn 81 = .ok (.iload_n 2, 1) := by decide +kernel
theorem dX6_learn_82 : decode cX6_learn 82 = .ok (.iconst 4, 1) := by decide +kernel
theorem dX6_learn_83 : decode cX6_learn 83 = .ok (.invokevirtual 34, 3) := by decide +kernel
theorem dX6_learn_86 : decode cX6_learn 86 = .ok (.istore 5, 2) := by decide +kernel
theorem dX6_learn_88 : decode cX6_learn 88 = .ok (.aload_n 1, 1) := by decide +kernel
theorem dX6_learn_89 : decode cX6_learn 89 = .ok (.iload_n 2, 1) := by decide +kernel
theorem dX6_learn_90 : decode cX6_learn 90 = .ok (.iconst 0, 1) := by decide +kernel
theorem dX6_learn_91 : decode cX6_learn 91 = .ok (.invokevirtual 34, 3) := by decide +kernel
theorem dX6_learn_94 : decode cX6_learn 94 = .ok (.ifCond .ne 35, 3) := by decide +kernel
theorem dX6_learn_129 : decode cX6_learn 129 = .ok (.return_, 1) := by decide +kernel
theorem dX6_learn_97 : decode cX6_learn 97 = .ok (.iload 4, 2) := by decide +kernel
theorem dX6_learn_99 : decode cX6_learn 99 = .ok (.iconst 2, 1) := by decide +kernel
theorem dX6_learn_100 : decode cX6_learn 100 = .ok (.if_icmp .ne 9, 3) := by decide +kernel
theorem dX6_learn_109 : decode cX6_learn 109 = .ok (.aload_n 0, 1) := by decide +kernel
theorem dX6_learn_110 : decode cX6_learn 110 = .ok (.getfield 9, 3) := by decide +kernel
theorem dX6_learn_113 : decode cX6_learn 113 = .ok (.iload_n 3, 1) := by decide +kernel
theorem dX6_learn_114 : decode cX6_learn 114 = .ok (.iload 4, 2) := by decide +kernel
theorem dX6_learn_116 : decode cX6_learn 116 = .ok (.invokestatic 88, 3) := by decide +kernel
theorem dX6_learn_119 : decode cX6_learn 119 = .ok (.aload_n 0, 1) := by decide +kernel
theorem dX6_learn_120 : decode cX6_learn 120 = .ok (.getfield 15, 3) := by decide +kernel
theorem dX6_learn_123 : decode cX6_learn 123 = .ok (.iload_n 3, 1) := by decide +kernel
theorem dX6_learn_124 : decode cX6_learn 124 = .ok (.iload 5, 2) := by decide +kernel
theorem dX6_learn_126 : decode cX6_learn 126 = .ok (.invokestatic 88, 3) := by decide +kernel
theorem dX6_learn_103 : decode cX6_learn 103 = .ok (.iload 5, 2) := by decide +kernel
theorem dX6_learn_105 : decode cX6_learn 105 = .ok (.iload_n 3, 1) := by decide +kernel
theorem dX6_learn_106 : decode cX6_learn 106 = .ok (.if_icmp .eq 23, 3) := by decide +kernel
theorem dX6_learn_11 : decode cX6_learn 11 = .ok (.return_, 1) := by decide +kernel
set_option maxRecDepth 20000 in
theorem k_X6_learn (d : Nat) {T : CT} {σ : MS} {a : Nat} {p1 : Nat} {p2 : Int} (ha : OB T a 6) (h_p1 : OB T p1 1) (t_p1 : (T p1).1 = 50) (h_p2 : -2147483648 ≤ p2 ∧ p2 ≤ 2147483647) (hw : WT T σ) : Tn (d + 3) m_X6_learn 0 T σ [(0, .ref a), (1, .ref p1), (2, .int (iI p2))] [] (fun ro T2 σ2 => ro = none ∧ T = T2 ∧ WT T2 σ2 ∧ FrC T [] σ σ2) := by
  refine tn_aload_n dX6_learn_0 rfl 1 rfl ?_
  refine tn_iload_n dX6_learn_1 rfl 2 rfl ?_
  refine tn_callV (M := m_X6_learn) (pc := 2) (ix := 84) (ci := 1) (M' := m_X1_writtenBy) (As := [.int (iI p2)]) (rest := []) dX6_learn_2 ok_X1_writtenBy im_X1_writtenBy se_X1_writtenBy ml6_84 np_X1_writtenBy rfl rfl h_p1 rfl (Nat.le_of_ble_eq_true rfl) (Nat.le_of_ble_eq_true rfl) rfl (k_X1_writtenBy (d) (T := T) (σ := σ) (a := p1) (k := p2) h_p1 (by omega) hw ) (fun r1 T3 σ2 gt4 hp => ?_)
  obtain ⟨v6, rfl, rfl, rfl, f5⟩ := hp
  clear gt4
  show Tn _ _ 5 T σ [(0, .ref a), (1, .ref p1), (2, .int (iI p2))] [.int (iI v6)] _
  refine tn_istore_n (L' := [(3, .int (iI v6)), (0, .ref a), (1, .ref p1), (2, .int (iI p2))]) dX6_learn_5 rfl (by decide) rfl ?_
  refine tn_iload_n dX6_learn_6 rfl 0 rfl ?_
  refine tn_iconst dX6_learn_7 ?_
  refine tn_icmp_ne (tgt := 12) dX6_learn_8 (by decide) ⟨by omega, by omega⟩ ⟨by decide, by decide⟩ (fun h7 => ?_) (fun h7 => ?_)
  · refine tn_aload_n dX6_learn_12 rfl 1 rfl ?_
    obtain ⟨x8, hx9, hk10, hl11⟩ : ∃ x : Nat, σ.2.1 52 a = (x : Int) ∧ AR T x 1 192 192 := wf_52 hw ha
    have hk10i : IA T x8 := by unfold IA; omega
    refine tn_getR (ci := 6) (i := 0) (n := 52) (x := x8) dX6_learn_13 rfl lay_6 (by decide) fl6_9 ha rfl rfl (hx9) ?_
    refine tn_iload_n dX6_learn_16 rfl 0 rfl ?_
    refine tn_iconst dX6_learn_17 ?_
    refine tn_callSN (M := m_X6_learn) (pc := 18) (ix := 88) (M' := m_X11_put) (As := [.ref x8, .int (iI v6), .int (iI 0)]) (rest := []) dX6_learn_18 ok_X11_put stt_X11_put nl6_88 np_X11_put rfl (Nat.le_of_ble_eq_true rfl) (Nat.le_of_ble_eq_true rfl) rfl (k_X11_put (d + 1) (T := T) (σ := σ) (x := x8) (i := v6) (y := 0) hk10i (by omega) (by omega) (by decide) hw (nh_k hk10 (by unfold HT; omega)) vok_0) (fun r12 T14 σ13 gt15 hp => ?_)
    obtain ⟨rfl, rfl, w17, F18⟩ := hp
    clear gt15
    show Tn _ _ 21 T σ13 [(3, .int (iI v6)), (0, .ref a), (1, .ref p1), (2, .int (iI p2))] [] _
    refine tn_iconst dX6_learn_21 ?_
    refine tn_istore (L' := [(4, .int (iI 0)), (3, .int (iI v6)), (0, .ref a), (1, .ref p1), (2, .int (iI p2))]) dX6_learn_22 (by decide) rfl ?_
    refine tn_sub [2, 3, 4, 1, 0] rfl (l_X6_learn_24 (d) (T := T) (σ0 := σ13) (a := a) (rx1 := p1) (c2 := p2) (c3 := v6) ha h_p1 t_p1 (by omega) (by omega) w17 (fun i419 σ20 w23 F24 r25 => ?_) _ (0) σ13 w17 FrC.rfl (by omega) rfl)
    show Tn _ _ 72 T σ20 [(0, .ref a), (1, .ref p1), (2, .int (iI p2)), (3, .int (iI v6)), (4, .int (iI i419))] [] _
    refine tn_aload_n dX6_learn_72 rfl 1 rfl ?_
    refine tn_iload_n dX6_learn_73 rfl 2 rfl ?_
    refine tn_iconst dX6_learn_74 ?_
    refine tn_callV (M := m_X6_learn) (pc := 75) (ix := 34) (ci := 1) (M' := m_X1_get) (As := [.int (iI p2), .int (iI 3)]) (rest := []) dX6_learn_75 ok_X1_get im_X1_get se_X1_get ml6_34 np_X1_get rfl rfl h_p1 rfl (Nat.le_of_ble_eq_true rfl) (Nat.le_of_ble_eq_true rfl) rfl (k_X1_get (d + 1) (T := T) (σ := σ20) (a := p1) (k := p2) (c := 3) h_p1 (by omega) (by decide) w23 (by omega)) (fun r26 T28 σ27 gt29 hp => ?_)
    obtain ⟨v31, rfl, rfl, rfl, f30⟩ := hp
    clear gt29
    show Tn _ _ 78 T σ20 [(0, .ref a), (1, .ref p1), (2, .int (iI p2)), (3, .int (iI v6)), (4, .int (iI i419))] [.int (iI v31)] _
    refine tn_istore (L' := [(4, .int (iI v31)), (0, .ref a), (1, .ref p1), (2, .int (iI p2)), (3, .int (iI v6))]) dX6_learn_78 (by decide) rfl ?_
    refine tn_aload_n dX6_learn_80 rfl 2 rfl ?_
    refine tn_iload_n dX6_learn_81 rfl 3 rfl ?_
    refine tn_iconst dX6_learn_82 ?_
    refine tn_callV (M := m_X6_learn) (pc := 83) (ix := 34) (ci := 1) (M' := m_X1_get) (As := [.int (iI p2), .int (iI 4)]) (rest := []) dX6_learn_83 ok_X1_get im_X1_get se_X1_get ml6_34 np_X1_get rfl rfl h_p1 rfl (Nat.le_of_ble_eq_true rfl) (Nat.le_of_ble_eq_true rfl) rfl (k_X1_get (d + 1) (T := T) (σ := σ20) (a := p1) (k := p2) (c := 4) h_p1 (by omega) (by decide) w23 (by omega)) (fun r32 T34 σ33 gt35 hp => ?_)
    obtain ⟨v37, rfl, rfl, rfl, f36⟩ := hp
    clear gt35
    show Tn _ _ 86 T σ20 [(4, .int (iI v31)), (0, .ref a), (1, .ref p1), (2, .int (iI p2)), (3, .int (iI v6))] [.int (iI v37)] _
    refine tn_istore (L' := [(5, .int (iI v37)), (4, .int (iI v31)), (0, .ref a), (1, .ref p1), (2, .int (iI p2)), (3, .int (iI v6))]) dX6_learn_86 (by decide) rfl ?_
    refine tn_aload_n dX6_learn_88 rfl 3 rfl ?_
    refine tn_iload_n dX6_learn_89 rfl 4 rfl ?_
    refine tn_iconst dX6_learn_90 ?_
    refine tn_callV (M := m_X6_learn) (pc := 91) (ix := 34) (ci := 1) (M' := m_X1_get) (As := [.int (iI p2), .int (iI 0)]) (rest := []) dX6_learn_91 ok_X1_get im_X1_get se_X1_get ml6_34 np_X1_get rfl rfl h_p1 rfl (Nat.le_of_ble_eq_true rfl) (Nat.le_of_ble_eq_true rfl) rfl (k_X1_get (d + 1) (T := T) (σ := σ20) (a := p1) (k := p2) (c := 0) h_p1 (by omega) (by decide) w23 (by omega)) (fun r38 T40 σ39 gt41 hp => ?_)
    obtain ⟨v43, rfl, rfl, rfl, f42⟩ := hp
    clear gt41
    show Tn _ _ 94 T σ20 [(5, .int (iI v37)), (4, .int (iI v31)), (0, .ref a), (1, .ref p1), (2, .int (iI p2)), (3, .int (iI v6))] [.int (iI v43)] _
    refine tn_if_ne (tgt := 129) dX6_learn_94 (by decide) ⟨by omega, by omega⟩ (fun h44 => ?_) (fun h44 => ?_)
    · exact tn_vret rfl dX6_learn_129 ⟨rfl, rfl, w23, ((FrC.rfl.trans (FrC.sub F18 (by decide))).trans (FrC.sub F24 (by decide)))⟩
    · refine tn_iload dX6_learn_97 1 rfl ?_
      refine tn_iconst dX6_learn_99 ?_
      refine tn_icmp_ne (tgt := 109) dX6_learn_100 (by decide) ⟨by omega, by omega⟩ ⟨by decide, by decide⟩ (fun h45 => ?_) (fun h45 => ?_)
      · refine tn_aload_n dX6_learn_109 rfl 2 rfl ?_
        refine tn_getR (ci := 6) (i := 0) (n := 52) (x := x8) dX6_learn_110 rfl lay_6 (by decide) fl6_9 ha rfl rfl (rc_F F24 (Or.inl (by decide)) (by decide) (rc_F F18 (Or.inl (by decide)) (by decide) (hx9))) ?_
        refine tn_iload_n dX6_learn_113 rfl 5 rfl ?_
        refine tn_iload dX6_learn_114 1 rfl ?_
        refine tn_callSN (M := m_X6_learn) (pc := 116) (ix := 88) (M' := m_X11_put) (As := [.ref x8, .int (iI v6), .int (iI v31)]) (rest := []) dX6_learn_116 ok_X11_put stt_X11_put nl6_88 np_X11_put rfl (Nat.le_of_ble_eq_true rfl) (Nat.le_of_ble_eq_true rfl) rfl (k_X11_put (d + 1) (T := T) (σ := σ20) (x := x8) (i := v6) (y := v31) hk10i (by omega) (by omega) (by omega) w23 (nh_k hk10 (by unfold HT; omega)) (vok_1 (by have q9 := hk10; omega) (by omega))) (fun r46 T48 σ47 gt49 hp => ?_)
        obtain ⟨rfl, rfl, w51, F52⟩ := hp
        clear gt49
        show Tn _ _ 119 T σ47 [(5, .int (iI v37)), (4, .int (iI v31)), (0, .ref a), (1, .ref p1), (2, .int (iI p2)), (3, .int (iI v6))] [] _
        refine tn_aload_n dX6_learn_119 rfl 2 rfl ?_
        obtain ⟨x53, hx54, hk55, hl56⟩ : ∃ x : Nat, σ.2.1 53 a = (x : Int) ∧ AR T x 1 192 192 := wf_53 hw ha
        have hk55i : IA T x53 := by unfold IA; omega
        refine tn_getR (ci := 6) (i := 1) (n := 53) (x := x53) dX6_learn_120 rfl lay_6 (by decide) fl6_15 ha rfl rfl (rc_F F52 (Or.inl (by decide)) (by decide) (rc_F F24 (Or.inl (by decide)) (by decide) (rc_F F18 (Or.inl (by decide)) (by decide) (hx54)))) ?_
        refine tn_iload_n dX6_learn_123 rfl 5 rfl ?_
        refine tn_iload dX6_learn_124 0 rfl ?_
        refine tn_callSN (M := m_X6_learn) (pc := 126) (ix := 88) (M' := m_X11_put) (As := [.ref x53, .int (iI v6), .int (iI v37)]) (rest := []) dX6_learn_126 ok_X11_put stt_X11_put nl6_88 np_X11_put rfl (Nat.le_of_ble_eq_true rfl) (Nat.le_of_ble_eq_true rfl) rfl (k_X11_put (d + 1) (T := T) (σ := σ47) (x := x53) (i := v6) (y := v37) hk55i (by omega) (by omega) (by omega) w51 (nh_k hk55 (by unfold HT; omega)) (vok_1 (by have q9 := hk55; omega) (by omega))) (fun r57 T59 σ58 gt60 hp => ?_)
        obtain ⟨rfl, rfl, w62, F63⟩ := hp
        clear gt60
        show Tn _ _ 129 T σ58 [(5, .int (iI v37)), (4, .int (iI v31)), (0, .ref a), (1, .ref p1), (2, .int (iI p2)), (3, .int (iI v6))] [] _
        exact tn_vret rfl dX6_learn_129 ⟨rfl, rfl, w62, ((((FrC.rfl.trans (FrC.sub F18 (by decide))).trans (FrC.sub F24 (by decide))).trans (FrC.sub F52 (by decide))).trans (FrC.sub F63 (by decide)))⟩
      · refine tn_iload dX6_learn_103 0 rfl ?_
        refine tn_iload_n dX6_learn_105 rfl 5 rfl ?_
        refine tn_icmp_eq (tgt := 129) dX6_learn_106 (by decide) ⟨by omega, by omega⟩ ⟨by omega, by omega⟩ (fun h64 => ?_) (fun h64 => ?_)
        · exact tn_vret rfl dX6_learn_129 ⟨rfl, rfl, w23, ((FrC.rfl.trans (FrC.sub F18 (by decide))).trans (FrC.sub F24 (by decide)))⟩
        · refine tn_aload_n dX6_learn_109 rfl 2 rfl ?_
          refine tn_getR (ci := 6) (i := 0) (n := 52) (x := x8) dX6_learn_110 rfl lay_6 (by decide) fl6_9 ha rfl rfl (rc_F F24 (Or.inl (by decide)) (by decide) (rc_F F18 (Or.inl (by decide)) (by decide) (hx9))) ?_
          refine tn_iload_n dX6_learn_113 rfl 5 rfl ?_
          refine tn_iload dX6_learn_114 1 rfl ?_
          refine tn_callSN (M := m_X6_learn) (pc := 116) (ix := 88) (M' := m_X11_put) (As := [.ref x8, .int (iI v6), .int (iI v31)]) (rest := []) dX6_learn_116 ok_X11_put stt_X11_put nl6_88 np_X11_put rfl (Nat.le_of_ble_eq_true rfl) (Nat.le_of_ble_eq_true rfl) rfl (k_X11_put (d + 1) (T := T) (σ := σ20) (x := x8) (i := v6) (y := v31) hk10i (by omega) (by omega) (by omega) w23 (nh_k hk10 (by unfold HT; omega)) (vok_1 (by have q9 := hk10; omega) (by omega))) (fun r65 T67 σ66 gt68 hp => ?_)
          obtain ⟨rfl, rfl, w70, F71⟩ := hp
          clear gt68
          show Tn _ _ 119 T σ66 [(5, .int (iI v37)), (4, .int (iI v31)), (0, .ref a), (1, .ref p1), (2, .int (iI p2)), (3, .int (iI v6))] [] _
          refine tn_aload_n dX6_learn_119 rfl 2 rfl ?_
          obtain ⟨x72, hx73, hk74, hl75⟩ : ∃ x : Nat, σ.2.1 53 a = (x : Int) ∧ AR T x 1 192 192 := wf_53 hw ha
          have hk74i : IA T x72 := by unfold IA; omega
          refine tn_getR (ci := 6) (i := 1) (n := 53) (x := x72) dX6_learn_120 rfl lay_6 (by decide) fl6_15 ha rfl rfl (rc_F F71 (Or.inl (by decide)) (by decide) (rc_F F24 (Or.inl (by decide)) (by decide) (rc_F F18 (Or.inl (by decide)) (by decide) (hx73)))) ?_
          refine tn_iload_n dX6_learn_123 rfl 5 rfl ?_
          refine tn_iload dX6_learn_124 0 rfl ?_
          refine tn_callSN (M := m_X6_learn) (pc := 126) (ix := 88) (M' := m_X11_put) (As := [.ref x72, .int (iI v6), .int (iI v37)]) (rest := []) dX6_learn_126 ok_X11_put stt_X11_put nl6_88 np_X11_put rfl (Nat.le_of_ble_eq_true rfl) (Nat.le_of_ble_eq_true rfl) rfl (k_X11_put (d + 1) (T := T) (σ := σ66) (x := x72) (i := v6) (y := v37) hk74i (by omega) (by omega) (by omega) w70 (nh_k hk74 (by unfold HT; omega)) (vok_1 (by have q9 := hk74; omega) (by omega))) (fun r76 T78 σ77 gt79 hp => ?_)
          obtain ⟨rfl, rfl, w81, F82⟩ := hp
          clear gt79
          show Tn _ _ 129 T σ77 [(5, .int (iI v37)), (4, .int (iI v31)), (0, .ref a), (1, .ref p1), (2, .int (iI p2)), (3, .int (iI v6))] [] _
          exact tn_vret rfl dX6_learn_129 ⟨rfl, rfl, w81, ((((FrC.rfl.trans (FrC.sub F18 (by decide))).trans (FrC.sub F24 (by decide))).trans (FrC.sub F71 (by decide))).trans (FrC.sub F82 (by decide)))⟩
  · exact tn_vret rfl dX6_learn_11 ⟨rfl, rfl, hw, FrC.rfl⟩
end
section
theorem cd_X6_fold : Cond.code yX6_fold cX6_fold 8 (some .int) ∈ pWW := pw4 (List.mem_of_getElem? (i := 187) rfl) rfl
abbrev m_X6_fold : MT := (yX6_fold, cX6_fold, 8, (some .int))
theorem ok_X6_fold : pOk m_X6_fold := ⟨⟨cd_X6_fold, ini_6⟩, by decide +kernel, ⟨by decide +kernel, by decide +kernel⟩, Nat.le_of_ble_eq_true rfl⟩
theorem np_X6_fold : (parseMethodDescriptor yX6_fold.desc).map (fun d => d.parameters.length) = some 1 := by decide +kernel
theorem im_X6_fold : Cond.instanceMethod yX6_fold ∈ pWW := pw4 (List.mem_of_getElem? (i := 185) rfl) rfl
theorem se_X6_fold : Cond.selects RX6 yX6_fold yX6_fold ∈ pWW := pw4 (List.mem_of_getElem? (i := 186) rfl) rfl
theorem fl6_22 : Cond.fieldLink RX6 22 (TX1 1).1 (TX1 1).2.1 (TX1 1).2.2.1 ∈ pWW := pw1 (List.mem_of_getElem? (i := 79) rfl) rfl
theorem ml6_28 : Cond.methodLink RX6 28 yJ7_fill_53178 ∈ pWW := pw4 (List.mem_of_getElem? (i := 188) rfl) rfl
theorem nl6_42 : (RX6, 42, yX11_isAct, "LineKeeper") ∈ nst_M := List.mem_of_getElem? (i := 17) rfl
theorem ml6_56 : Cond.methodLink RX6 56 yX6_goesOut ∈ pWW := pw4 (List.mem_of_getElem? (i := 222) rfl) rfl
theorem ml6_59 : Cond.methodLink RX6 59 yX1_removeRow ∈ pWW := pw4 (List.mem_of_getElem? (i := 226) rfl) rfl
theorem ml6_46 : Cond.methodLink RX6 46 yX6_foldOperands ∈ pWW := pw4 (List.mem_of_getElem? (i := 197) rfl) rfl
theorem ml6_50 : Cond.methodLink RX6 50 yX6_foldAct ∈ pWW := pw4 (List.mem_of_getElem? (i := 202) rfl) rfl
theorem ml6_53 : Cond.methodLink RX6 53 yX6_learn ∈ pWW := pw4 (List.mem_of_getElem? (i := 216) rfl) rfl
theorem ml6_38 : Cond.methodLink RX6 38 yX6_foldBind ∈ pWW := pw4 (List.mem_of_getElem? (i := 190) rfl) rfl
theorem dX6_fold_0 : decode cX6_fold 0 = .ok (.iconst 0, 1) := by decide +kernel
theorem dX6_fold_1 : decode cX6_fold 1 = .ok (.istore_n 2, 1) := by decide +kernel
theorem dX6_fold_2 : decode cX6_fold 2 = .ok (.iconst 0, 1) := by decide +kernel
theorem dX6_fold_3 : decode cX6_fold 3 = .ok (.istore_n 3, 1) := by decide +kernel
theorem dX6_fold_4 : decode cX6_fold 4 = .ok (.aload_n 1, 1) := by decide +kernel
theorem dX6_fold_5 : decode cX6_fold 5 = .ok (.getfield 22, 3) := by decide +kernel
theorem dX6_fold_8 : decode cX6_fold 8 = .ok (.istore 4, 2) := by decide +kernel
theorem dX6_fold_10 : decode cX6_fold 10 = .ok (.aload_n 0, 1) := by decide +kernel
theorem dX6_fold_11 : decode cX6_fold 11 = .ok (.getfield 9, 3) := by decide +kernel
theorem dX6_fold_14 : decode cX6_fold 14 = .ok (.iconst 0, 1) := by decide +kernel
theorem dX6_fold_15 : decode cX6_fold 15 = .ok (.invokestatic 28, 3) := by decide +kernel
theorem dX6_fold_18 : decode cX6_fold 18 = .ok (.iconst 0, 1) := by decide +kernel
theorem dX6_fold_19 : decode cX6_fold 19 = .ok (.istore 5, 2) := by decide +kernel
theorem dX6_fold_21 : decode cX6_fold 21 = .ok (.iload 5, 2) := by decide +kernel
theorem dX6_fold_23 : decode cX6_fold 23 = .ok (.iload 4, 2) := by decide +kernel
theorem dX6_fold_25 : decode cX6_fold 25 = .ok (.if_icmp .ge 117, 3) := by decide +kernel
theorem dX6_fold_28 : decode cX6_fold 28 = .ok (.aload_n 1, 1) := by decide +kernel
theorem dX6_fold_29 : decode cX6_fold 29 = .ok (.iload_n 3, 1) := by decide +kernel
theorem dX6_fold_30 : decode cX6_fold 30 = .ok (.iconst 0, 1) := by decide +kernel
theorem dX6_fold_31 : decode cX6_fold 31 = .ok (.invokevirtual 34, 3) := by decide +kernel
theorem dX6_fold_34 : decode cX6_fold 34 = .ok (.istore 6, 2) := by decide +kernel
theorem dX6_fold_36 : decode cX6_fold 36 = .ok (.iload 6, 2) := by decide +kernel
theorem dX6_fold_38 : decode cX6_fold 38 = .ok (.bipush 13, 2) := by decide +kernel
theorem dX6_fold_40 : decode cX6_fold 40 = .ok (.if_icmp .ne 14, 3) := by decide +kernel
theorem dX6_fold_54 : decode cX6_fold 54 = .ok (.iload 6, 2) := by decide +kernel
theorem dX6_fold_56 : decode cX6_fold 56 = .ok (.bipush 12, 2) := by decide +kernel
theorem dX6_fold_58 : decode cX6_fold 58 = .ok (.if_icmp .ne 12, 3) := by decide +kernel
theorem dX6_fold_70 : decode cX6_fold 70 = .ok (.iload 6, 2) := by decide +kernel
theorem dX6_fold_72 : decode cX6_fold 72 = .ok (.invokestatic 42, 3) := by decide +kernel
theorem dX6_fold_75 : decode cX6_fold 75 = .ok (.ifCond .eq 41, 3) := by decide +kernel
theorem dX6_fold_116 : decode cX6_fold 116 = .ok (.aload_n 0, 1) := by decide +kernel
theorem dX6_fold_117 : decode cX6_fold 117 = .ok (.aload_n 1, 1) := by decide +kernel
theorem dX6_fold_118 : decode cX6_fold 118 = .ok (.iload_n 3, 1) := by decide +kernel
theorem dX6_fold_119 : decode cX6_fold 119 = .ok (.invokevirtual 56, 3) := by decide +kernel
theorem dX6_fold_122 : decode cX6_fold 122 = .ok (.ifCond .eq 11, 3) := by decide +kernel
theorem dX6_fold_133 : decode cX6_fold 133 = .ok (.iinc 3 1, 3) := by decide +kernel
theorem dX6_fold_136 : decode cX6_fold 136 = .ok (.iinc 5 1, 3) := by decide +kernel
theorem dX6_fold_139 : decode cX6_fold 139 = .ok (.goto (-118), 3) := by decide +kernel
theorem dX6_fold_125 : decode cX6_fold 125 = .ok (.aload_n 1, 1) := by decide +kernel
theorem dX6_fold_126 : decode cX6_fold 126 = .ok (.iload_n 3, 1) := by decide +kernel
theorem dX6_fold_127 : decode cX6_fold 127 = .ok (.invokevirtual 59, 3) := by decide +kernel
theorem dX6_fold_130 : decode cX6_fold 130 = .ok (.goto 6, 3) := by decide +kernel
theorem dX6_fold_78 : decode cX6_fold 78 = .ok (.aload_n 0, 1) := by decide +kernel
theorem dX6_fold_79 : decode cX6_fold 79 = .ok (.aload_n 1, 1) := by decide +kernel
theorem dX6_fold_80 : decode cX6_fold 80 = .ok (.iload_n 3, 1) := by decide +kernel
theorem dX6_fold_81 : decode cX6_fold 81 = .ok (.invokevirtual 46, 3) := by decide +kernel
theorem dX6_fold_84 : decode cX6_fold 84 = .ok (.istore 7, 2) := by decide +kernel
theorem dX6_fold_86 : decode cX6_fold 86 = .ok (.iload 7, 2) := by decide +kernel
theorem dX6_fold_88 : decode cX6_fold 88 = .ok (.aload_n 0, 1) := by decide +kernel
theorem dX6_fold_89 : decode cX6_fold 89 = .ok (.aload_n 1, 1) := by decide +kernel
theorem dX6_fold_90 : decode cX6_fold 90 = .ok (.iload_n 3, 1) := by decide +kernel
theorem dX6_fold_91 : decode cX6_fold 91 = .ok (.invokevirtual 50, 3) := by decide +kernel
theorem dX6_fold_94 : decode cX6_fold 94 = .ok (.ior, 1) := by decide +kernel
theorem dX6_fold_95 : decode cX6_fold 95 = .ok (.istore 7, 2) := by decide +kernel
theorem dX6_fold_97 : decode cX6_fold 97 = .ok (.iload_n 2, 1) := by decide +kernel
theorem dX6_fold_98 : decode cX6_fold 98 = .ok (.iload 7, 2) := by decide +kernel
theorem dX6_fold_100 : decode cX6_fold 100 = .ok (.ifCond .eq 7, 3) := by decide +kernel
theorem dX6_fold_107 : decode cX6_fold 107 = .ok (.iconst 0, 1) := by decide +kernel
theorem dX6_fold_108 : decode cX6_fold 108 = .ok (.iadd, 1) := by decide +kernel
theorem dX6_fold_109 : decode cX6_fold 109 = .ok (.istore_n 2, 1) := by decide +kernel
theorem dX6_fold_110 : decode cX6_fold 110 = .ok (.aload_n 0, 1) := by decide +kernel
theorem dX6_fold_111 : decode cX6_fold 111 = .ok (.aload_n 1, 1) := by decide +kernel
theorem dX6_fold_112 : decode cX6_fold 112 = .ok (.iload_n 3, 1) := by decide +kernel
theorem dX6_fold_113 : decode cX6_fold 113 = .ok (.invokevirtual 53, 3) := by decide +kernel
theorem dX6_fold_103 : decode cX6_fold 103 = .ok (.iconst 1, 1) := by decide +kernel
theorem dX6_fold_104 : decode cX6_fold 104 = .ok (.goto 4, 3) := by decide +kernel
theorem dX6_fold_61 : decode cX6_fold 61 = .ok (.aload_n 0, 1) := by decide +kernel
theorem dX6_fold_62 : decode cX6_fold 62 = .ok (.aload_n 1, 1) := by decide +kernel
theorem dX6_fold_63 : decode cX6_fold 63 = .ok (.iload_n 3, 1) := by decide +kernel
theorem dX6_fold_64 : decode cX6_fold 64 = .ok (.invokevirtual 38, 3) := by decide +kernel
theorem dX6_fold_67 : decode cX6_fold 67 = .ok (.goto 49, 3) := by decide +kernel
theorem dX6_fold_43 : decode cX6_fold 43 = .ok (.aload_n 0, 1) := by decide +kernel
theorem dX6_fold_44 : decode cX6_fold 44 = .ok (.getfield 9, 3) := by decide +kernel
theorem dX6_fold_47 : decode cX6_fold 47 = .ok (.iconst 0, 1) := by decide +kernel
theorem dX6_fold_48 : decode cX6_fold 48 = .ok (.invokestatic 28, 3) := by decide +kernel
theorem dX6_fold_51 : decode cX6_fold 51 = .ok (.goto 65, 3) := by decide +kernel
set_option maxRecDepth 20000 in
theorem l_X6_fold_21 (d : Nat) {T : CT} {σ0 : MS} {a : Nat} {rx1 : Nat} {c4 : Int} {post : Option Value → CT → MS → Prop} (h_a : OB T a 6) (h_rx1 : OB T rx1 1) (t_rx1 : (T rx1).1 = 50) (r_c4 : 0 ≤ c4 ∧ c4 ≤ 200) (hw0 : WT T σ0) (hx_142 : ∀ (i2 : Int) (i3 : Int) (i5 : Int) (σ : MS) , (WT T σ) → (FrC T [6] σ0 σ) → (-2147483648 ≤ i2 ∧ i2 ≤ 2147483647) → (-2147483648 ≤ i3 ∧ i3 ≤ 2147483647) → (0 ≤ i5 ∧ i5 ≤ 2147483647) → Tn (d + 4) m_X6_fold 142 T σ [(0, .ref a), (1, .ref rx1), (2, .int (iI i2)), (3, .int (iI i3)), (4, .int (iI c4)), (5, .int (iI i5))] [] post) : ∀ (n : Nat) (i2 : Int) (i3 : Int) (i5 : Int) (σ : MS) , (WT T σ) → (FrC T [6] σ0 σ) → (-2147483648 ≤ i2 ∧ i2 ≤ 2147483647) → (-2147483648 ≤ i3 ∧ i3 ≤ 2147483647) → (0 ≤ i5 ∧ i5 ≤ 2147483647) → (2147483700 - i5).toNat = n → Tn (d + 4) m_X6_fold 21 T σ [(0, .ref a), (1, .ref rx1), (2, .int (iI i2)), (3, .int (iI i3)), (4, .int (iI c4)), (5, .int (iI i5))] [] post := by
  intro n
  induction n using Nat.strongRecOn with
  | _ n ih =>
    intro i2 i3 i5 σ hw hF r_i2 r_i3 r_i5 hm
    refine tn_iload dX6_fold_21 5 rfl ?_
    refine tn_iload dX6_fold_23 4 rfl ?_
    refine tn_icmp_ge (tgt := 142) dX6_fold_25 (by decide) ⟨by omega, by omega⟩ ⟨by omega, by omega⟩ (fun h1 => ?_) (fun h1 => ?_)
    · exact tn_sub [0, 1, 2, 3, 4, 5] rfl (hx_142 (i2) (i3) (i5) σ hw (FrC.rfl.trans (FrC.sub hF (by decide))) (by omega) (by omega) (by omega))
    · refine tn_aload_n dX6_fold_28 rfl 1 rfl ?_
      refine tn_iload_n dX6_fold_29 rfl 3 rfl ?_
      refine tn_iconst dX6_fold_30 ?_
      refine tn_callV (M := m_X6_fold) (pc := 31) (ix := 34) (ci := 1) (M' := m_X1_get) (As := [.int (iI i3), .int (iI 0)]) (rest := []) dX6_fold_31 ok_X1_get im_X1_get se_X1_get ml6_34 np_X1_get rfl rfl h_rx1 rfl (Nat.le_of_ble_eq_true rfl) (Nat.le_of_ble_eq_true rfl) rfl (k_X1_get (d + 2) (T := T) (σ := σ) (a := rx1) (k := i3) (c := 0) h_rx1 (by omega) (by decide) hw (by omega)) (fun r2 T4 σ3 gt5 hp => ?_)
      obtain ⟨v7, rfl, rfl, rfl, f6⟩ := hp
      clear gt5
      show Tn _ _ 34 T σ [(0, .ref a), (1, .ref rx1), (2, .int (iI i2)), (3, .int (iI i3)), (4, .int (iI c4)), (5, .int (iI i5))] [.int (iI v7)] _
      refine tn_istore (L' := [(6, .int (iI v7)), (0, .ref a), (1, .ref rx1), (2, .int (iI i2)), (3, .int (iI i3)), (4, .int (iI c4)), (5, .int (iI i5))]) dX6_fold_34 (by decide) rfl ?_
      refine tn_iload dX6_fold_36 0 rfl ?_
      refine tn_bipush dX6_fold_38 (by decide) ?_
      refine tn_icmp_ne (tgt := 54) dX6_fold_40 (by decide) ⟨by omega, by omega⟩ ⟨by decide, by decide⟩ (fun h8 => ?_) (fun h8 => ?_)
      · refine tn_iload dX6_fold_54 0 rfl ?_
        refine tn_bipush dX6_fold_56 (by decide) ?_
        refine tn_icmp_ne (tgt := 70) dX6_fold_58 (by decide) ⟨by omega, by omega⟩ ⟨by decide, by decide⟩ (fun h9 => ?_) (fun h9 => ?_)
        · refine tn_iload dX6_fold_70 0 rfl ?_
          refine tn_callSN (M := m_X6_fold) (pc := 72) (ix := 42) (M' := m_X11_isAct) (As := [.int (iI v7)]) (rest := []) dX6_fold_72 ok_X11_isAct stt_X11_isAct nl6_42 np_X11_isAct rfl (Nat.le_of_ble_eq_true rfl) (Nat.le_of_ble_eq_true rfl) rfl (k_X11_isAct (d + 2) (T := T) (σ := σ) (k := v7) (by omega) hw ) (fun r10 T12 σ11 gt13 hp => ?_)
          obtain ⟨v15, rfl, rfl, rfl, f14⟩ := hp
          clear gt13
          show Tn _ _ 75 T σ [(6, .int (iI v7)), (0, .ref a), (1, .ref rx1), (2, .int (iI i2)), (3, .int (iI i3)), (4, .int (iI c4)), (5, .int (iI i5))] [.int (iI v15)] _
          refine tn_if_eq (tgt := 116) dX6_fold_75 (by decide) ⟨by omega, by omega⟩ (fun h16 => ?_) (fun h16 => ?_)
          · refine tn_aload_n dX6_fold_116 rfl 1 rfl ?_
            refine tn_aload_n dX6_fold_117 rfl 2 rfl ?_
            refine tn_iload_n dX6_fold_118 rfl 4 rfl ?_
            refine tn_callV (M := m_X6_fold) (pc := 119) (ix := 56) (ci := 6) (M' := m_X6_goesOut) (As := [.ref rx1, .int (iI i3)]) (rest := []) dX6_fold_119 ok_X6_goesOut im_X6_goesOut se_X6_goesOut ml6_56 np_X6_goesOut rfl rfl h_a rfl (Nat.le_of_ble_eq_true rfl) (Nat.le_of_ble_eq_true rfl) rfl (k_X6_goesOut (d + 1) (T := T) (σ := σ) (a := a) (p1 := rx1) (p2 := i3) h_a h_rx1 t_rx1 (by omega) hw ) (fun r17 T19 σ18 gt20 hp => ?_)
            obtain ⟨v22, rfl, rfl, rfl, f21⟩ := hp
            clear gt20
            show Tn _ _ 122 T σ [(6, .int (iI v7)), (0, .ref a), (1, .ref rx1), (2, .int (iI i2)), (3, .int (iI i3)), (4, .int (iI c4)), (5, .int (iI i5))] [.int (iI v22)] _
            refine tn_if_eq (tgt := 133) dX6_fold_122 (by decide) ⟨by omega, by omega⟩ (fun h23 => ?_) (fun h23 => ?_)
            · refine tn_iinc (q0 := 4) (L' := [(3, .int (iI (i3 + 1))), (6, .int (iI v7)), (0, .ref a), (1, .ref rx1), (2, .int (iI i2)), (4, .int (iI c4)), (5, .int (iI i5))]) dX6_fold_133 rfl (by decide) rfl ?_
              obtain ⟨z24, g25, g25e⟩ := wr_ex (i3 + 1)
              rw [g25e]
              have g25r : -2147483648 ≤ z24 ∧ z24 ≤ 2147483647 := g25
              refine tn_iinc (q0 := 6) (L' := [(5, .int (iI (i5 + 1))), (3, .int (iI z24)), (6, .int (iI v7)), (0, .ref a), (1, .ref rx1), (2, .int (iI i2)), (4, .int (iI c4))]) dX6_fold_136 rfl (by decide) rfl ?_
              refine tn_goto (tgt := 21) dX6_fold_139 (by decide) ?_
              exact tn_sub [3, 4, 5, 1, 6, 0] rfl (ih _ (by omega) (i2) (z24) (i5 + 1) σ hw (FrC.rfl.trans (FrC.sub hF (by decide))) (by omega) (by omega) (by omega) rfl)
            · refine tn_aload_n dX6_fold_125 rfl 2 rfl ?_
              refine tn_iload_n dX6_fold_126 rfl 4 rfl ?_
              refine tn_callV (M := m_X6_fold) (pc := 127) (ix := 59) (ci := 1) (M' := m_X1_removeRow) (As := [.int (iI i3)]) (rest := []) dX6_fold_127 ok_X1_removeRow im_X1_removeRow se_X1_removeRow ml6_59 np_X1_removeRow rfl rfl h_rx1 rfl (Nat.le_of_ble_eq_true rfl) (Nat.le_of_ble_eq_true rfl) rfl (k_X1_removeRow (d + 2) (T := T) (σ := σ) (a := rx1) (k := i3) h_rx1 t_rx1 (by omega) hw ) (fun r26 T28 σ27 gt29 hp => ?_)
              obtain ⟨rfl, rfl, w31, F32⟩ := hp
              clear gt29
              show Tn _ _ 130 T σ27 [(6, .int (iI v7)), (0, .ref a), (1, .ref rx1), (2, .int (iI i2)), (3, .int (iI i3)), (4, .int (iI c4)), (5, .int (iI i5))] [] _
              refine tn_goto (tgt := 136) dX6_fold_130 (by decide) ?_
              refine tn_iinc (q0 := 6) (L' := [(5, .int (iI (i5 + 1))), (6, .int (iI v7)), (0, .ref a), (1, .ref rx1), (2, .int (iI i2)), (3, .int (iI i3)), (4, .int (iI c4))]) dX6_fold_136 rfl (by decide) rfl ?_
              refine tn_goto (tgt := 21) dX6_fold_139 (by decide) ?_
              exact tn_sub [2, 3, 4, 5, 6, 0] rfl (ih _ (by omega) (i2) (i3) (i5 + 1) σ27 w31 ((FrC.rfl.trans (FrC.sub hF (by decide))).trans (FrC.sub F32 (by decide))) (by omega) (by omega) (by omega) rfl)
          · refine tn_aload_n dX6_fold_78 rfl 1 rfl ?_
            refine tn_aload_n dX6_fold_79 rfl 2 rfl ?_
            refine tn_iload_n dX6_fold_80 rfl 4 rfl ?_
            refine tn_callV (M := m_X6_fold) (pc := 81) (ix := 46) (ci := 6) (M' := m_X6_foldOperands) (As := [.ref rx1, .int (iI i3)]) (rest := []) dX6_fold_81 ok_X6_foldOperands im_X6_foldOperands se_X6_foldOperands ml6_46 np_X6_foldOperands rfl rfl h_a rfl (Nat.le_of_ble_eq_true rfl) (Nat.le_of_ble_eq_true rfl) rfl (k_X6_foldOperands (d + 1) (T := T) (σ := σ) (a := a) (p1 := rx1) (p2 := i3) h_a h_rx1 t_rx1 (by omega) hw ) (fun r33 T35 σ34 gt36 hp => ?_)
            obtain ⟨v38, rfl, rfl, w39, F40, f37⟩ := hp
            clear gt36
            show Tn _ _ 84 T σ34 [(6, .int (iI v7)), (0, .ref a), (1, .ref rx1), (2, .int (iI i2)), (3, .int (iI i3)), (4, .int (iI c4)), (5, .int (iI i5))] [.int (iI v38)] _
            refine tn_istore (L' := [(7, .int (iI v38)), (6, .int (iI v7)), (0, .ref a), (1, .ref rx1), (2, .int (iI i2)), (3, .int (iI i3)), (4, .int (iI c4)), (5, .int (iI i5))]) dX6_fold_84 (by decide) rfl ?_
            refine tn_iload dX6_fold_86 0 rfl ?_
            refine tn_aload_n dX6_fold_88 rfl 2 rfl ?_
            refine tn_aload_n dX6_fold_89 rfl 3 rfl ?_
            refine tn_iload_n dX6_fold_90 rfl 5 rfl ?_
            refine tn_callV (M := m_X6_fold) (pc := 91) (ix := 50) (ci := 6) (M' := m_X6_foldAct) (As := [.ref rx1, .int (iI i3)]) (rest := [.int (iI v38)]) dX6_fold_91 ok_X6_foldAct im_X6_foldAct se_X6_foldAct ml6_50 np_X6_foldAct rfl rfl h_a rfl (Nat.le_of_ble_eq_true rfl) (Nat.le_of_ble_eq_true rfl) rfl (k_X6_foldAct (d) (T := T) (σ := σ34) (a := a) (p1 := rx1) (p2 := i3) h_a h_rx1 t_rx1 (by omega) w39 ) (fun r41 T43 σ42 gt44 hp => ?_)
            obtain ⟨v46, rfl, rfl, w47, F48, f45⟩ := hp
            clear gt44
            show Tn _ _ 94 T σ42 [(7, .int (iI v38)), (6, .int (iI v7)), (0, .ref a), (1, .ref rx1), (2, .int (iI i2)), (3, .int (iI i3)), (4, .int (iI c4)), (5, .int (iI i5))] [.int (iI v46), .int (iI v38)] _
            refine tn_ior dX6_fold_94 ?_
            refine tn_bor (x := v38) (y := v46) (by omega) (by omega) (fun z51 g52 => ?_)
            refine tn_istore (L' := [(7, .int (iI z51)), (6, .int (iI v7)), (0, .ref a), (1, .ref rx1), (2, .int (iI i2)), (3, .int (iI i3)), (4, .int (iI c4)), (5, .int (iI i5))]) dX6_fold_95 (by decide) rfl ?_
            refine tn_iload_n dX6_fold_97 rfl 4 rfl ?_
            refine tn_iload dX6_fold_98 0 rfl ?_
            refine tn_if_eq (tgt := 107) dX6_fold_100 (by decide) ⟨by omega, by omega⟩ (fun h53 => ?_) (fun h53 => ?_)
            · refine tn_iconst dX6_fold_107 ?_
              refine tn_iadd dX6_fold_108 ?_
              refine tn_istore_n (L' := [(2, .int (iI (i2 + 0))), (7, .int (iI z51)), (6, .int (iI v7)), (0, .ref a), (1, .ref rx1), (3, .int (iI i3)), (4, .int (iI c4)), (5, .int (iI i5))]) dX6_fold_109 rfl (by decide) rfl ?_
              refine tn_aload_n dX6_fold_110 rfl 3 rfl ?_
              refine tn_aload_n dX6_fold_111 rfl 4 rfl ?_
              refine tn_iload_n dX6_fold_112 rfl 5 rfl ?_
              refine tn_callV (M := m_X6_fold) (pc := 113) (ix := 53) (ci := 6) (M' := m_X6_learn) (As := [.ref rx1, .int (iI i3)]) (rest := []) dX6_fold_113 ok_X6_learn im_X6_learn se_X6_learn ml6_53 np_X6_learn rfl rfl h_a rfl (Nat.le_of_ble_eq_true rfl) (Nat.le_of_ble_eq_true rfl) rfl (k_X6_learn (d) (T := T) (σ := σ42) (a := a) (p1 := rx1) (p2 := i3) h_a h_rx1 t_rx1 (by omega) w47 ) (fun r54 T56 σ55 gt57 hp => ?_)
              obtain ⟨rfl, rfl, w59, F60⟩ := hp
              clear gt57
              show Tn _ _ 116 T σ55 [(2, .int (iI (i2 + 0))), (7, .int (iI z51)), (6, .int (iI v7)), (0, .ref a), (1, .ref rx1), (3, .int (iI i3)), (4, .int (iI c4)), (5, .int (iI i5))] [] _
              refine tn_aload_n dX6_fold_116 rfl 3 rfl ?_
              refine tn_aload_n dX6_fold_117 rfl 4 rfl ?_
              refine tn_iload_n dX6_fold_118 rfl 5 rfl ?_
              refine tn_callV (M := m_X6_fold) (pc := 119) (ix := 56) (ci := 6) (M' := m_X6_goesOut) (As := [.ref rx1, .int (iI i3)]) (rest := []) dX6_fold_119 ok_X6_goesOut im_X6_goesOut se_X6_goesOut ml6_56 np_X6_goesOut rfl rfl h_a rfl (Nat.le_of_ble_eq_true rfl) (Nat.le_of_ble_eq_true rfl) rfl (k_X6_goesOut (d + 1) (T := T) (σ := σ55) (a := a) (p1 := rx1) (p2 := i3) h_a h_rx1 t_rx1 (by omega) w59 ) (fun r61 T63 σ62 gt64 hp => ?_)
              obtain ⟨v66, rfl, rfl, rfl, f65⟩ := hp
              clear gt64
              show Tn _ _ 122 T σ55 [(2, .int (iI (i2 + 0))), (7, .int (iI z51)), (6, .int (iI v7)), (0, .ref a), (1, .ref rx1), (3, .int (iI i3)), (4, .int (iI c4)), (5, .int (iI i5))] [.int (iI v66)] _
              refine tn_if_eq (tgt := 133) dX6_fold_122 (by decide) ⟨by omega, by omega⟩ (fun h67 => ?_) (fun h67 => ?_)
              · refine tn_iinc (q0 := 5) (L' := [(3, .int (iI (i3 + 1))), (2, .int (iI (i2 + 0))), (7, .int (iI z51)), (6, .int (iI v7)), (0, .ref a), (1, .ref rx1), (4, .int (iI c4)), (5, .int (iI i5))]) dX6_fold_133 rfl (by decide) rfl ?_
                obtain ⟨z68, g69, g69e⟩ := wr_ex (i3 + 1)
                rw [g69e]
                have g69r : -2147483648 ≤ z68 ∧ z68 ≤ 2147483647 := g69
                refine tn_iinc (q0 := 7) (L' := [(5, .int (iI (i5 + 1))), (3, .int (iI z68)), (2, .int (iI (i2 + 0))), (7, .int (iI z51)), (6, .int (iI v7)), (0, .ref a), (1, .ref rx1), (4, .int (iI c4))]) dX6_fold_136 rfl (by decide) rfl ?_
                refine tn_goto (tgt := 21) dX6_fold_139 (by decide) ?_
                exact tn_sub [5, 6, 2, 1, 7, 0] rfl (ih _ (by omega) (i2 + 0) (z68) (i5 + 1) σ55 w59 ((((FrC.rfl.trans (FrC.sub hF (by decide))).trans (FrC.sub F40 (by decide))).trans (FrC.sub F48 (by decide))).trans (FrC.sub F60 (by decide))) (by omega) (by omega) (by omega) rfl)
              · refine tn_aload_n dX6_fold_125 rfl 4 rfl ?_
                refine tn_iload_n dX6_fold_126 rfl 5 rfl ?_
                refine tn_callV (M := m_X6_fold) (pc := 127) (ix := 59) (ci := 1) (M' := m_X1_removeRow) (As := [.int (iI i3)]) (rest := []) dX6_fold_127 ok_X1_removeRow im_X1_removeRow se_X1_removeRow ml6_59 np_X1_removeRow rfl rfl h_rx1 rfl (Nat.le_of_ble_eq_true rfl) (Nat.le_of_ble_eq_true rfl) rfl (k_X1_removeRow (d + 2) (T := T) (σ := σ55) (a := rx1) (k := i3) h_rx1 t_rx1 (by omega) w59 ) (fun r70 T72 σ71 gt73 hp => ?_)
                obtain ⟨rfl, rfl, w75, F76⟩ := hp
                clear gt73
                show Tn _ _ 130 T σ71 [(2, .int (iI (i2 + 0))), (7, .int (iI z51)), (6, .int (iI v7)), (0, .ref a), (1, .ref rx1), (3, .int (iI i3)), (4, .int (iI c4)), (5, .int (iI i5))] [] _
                refine tn_goto (tgt := 136) dX6_fold_130 (by decide) ?_
                refine tn_iinc (q0 := 7) (L' := [(5, .int (iI (i5 + 1))), (2, .int (iI (i2 + 0))), (7, .int (iI z51)), (6, .int (iI v7)), (0, .ref a), (1, .ref rx1), (3, .int (iI i3)), (4, .int (iI c4))]) dX6_fold_136 rfl (by decide) rfl ?_
                refine tn_goto (tgt := 21) dX6_fold_139 (by decide) ?_
                exact tn_sub [4, 5, 1, 6, 7, 0] rfl (ih _ (by omega) (i2 + 0) (i3) (i5 + 1) σ71 w75 (((((FrC.rfl.trans (FrC.sub hF (by decide))).trans (FrC.sub F40 (by decide))).trans (FrC.sub F48 (by decide))).trans (FrC.sub F60 (by decide))).trans (FrC.sub F76 (by decide))) (by omega) (by omega) (by omega) rfl)
            · refine tn_iconst dX6_fold_103 ?_
              refine tn_goto (tgt := 108) dX6_fold_104 (by decide) ?_
              refine tn_iadd dX6_fold_108 ?_
              refine tn_any (fun z77 g78 => ?_)
              have g78r : -2147483648 ≤ z77 ∧ z77 ≤ 2147483647 := g78
              refine tn_istore_n (L' := [(2, .int (iI z77)), (7, .int (iI z51)), (6, .int (iI v7)), (0, .ref a), (1, .ref rx1), (3, .int (iI i3)), (4, .int (iI c4)), (5, .int (iI i5))]) dX6_fold_109 rfl (by decide) rfl ?_
              refine tn_aload_n dX6_fold_110 rfl 3 rfl ?_
              refine tn_aload_n dX6_fold_111 rfl 4 rfl ?_
              refine tn_iload_n dX6_fold_112 rfl 5 rfl ?_
              refine tn_callV (M := m_X6_fold) (pc := 113) (ix := 53) (ci := 6) (M' := m_X6_learn) (As := [.ref rx1, .int (iI i3)]) (rest := []) dX6_fold_113 ok_X6_learn im_X6_learn se_X6_learn ml6_53 np_X6_learn rfl rfl h_a rfl (Nat.le_of_ble_eq_true rfl) (Nat.le_of_ble_eq_true rfl) rfl (k_X6_learn (d) (T := T) (σ := σ42) (a := a) (p1 := rx1) (p2 := i3) h_a h_rx1 t_rx1 (by omega) w47 ) (fun r79 T81 σ80 gt82 hp => ?_)
              obtain ⟨rfl, rfl, w84, F85⟩ := hp
              clear gt82
              show Tn _ _ 116 T σ80 [(2, .int (iI z77)), (7, .int (iI z51)), (6, .int (iI v7)), (0, .ref a), (1, .ref rx1), (3, .int (iI i3)), (4, .int (iI c4)), (5, .int (iI i5))] [] _
              refine tn_aload_n dX6_fold_116 rfl 3 rfl ?_
              refine tn_aload_n dX6_fold_117 rfl 4 rfl ?_
              refine tn_iload_n dX6_fold_118 rfl 5 rfl ?_
              refine tn_callV (M := m_X6_fold) (pc := 119) (ix := 56) (ci := 6) (M' := m_X6_goesOut) (As := [.ref rx1, .int (iI i3)]) (rest := []) dX6_fold_119 ok_X6_goesOut im_X6_goesOut se_X6_goesOut ml6_56 np_X6_goesOut rfl rfl h_a rfl (Nat.le_of_ble_eq_true rfl) (Nat.le_of_ble_eq_true rfl) rfl (k_X6_goesOut (d + 1) (T := T) (σ := σ80) (a := a) (p1 := rx1) (p2 := i3) h_a h_rx1 t_rx1 (by omega) w84 ) (fun r86 T88 σ87 gt89 hp => ?_)
              obtain ⟨v91, rfl, rfl, rfl, f90⟩ := hp
              clear gt89
              show Tn _ _ 122 T σ80 [(2, .int (iI z77)), (7, .int (iI z51)), (6, .int (iI v7)), (0, .ref a), (1, .ref rx1), (3, .int (iI i3)), (4, .int (iI c4)), (5, .int (iI i5))] [.int (iI v91)] _
              refine tn_if_eq (tgt := 133) dX6_fold_122 (by decide) ⟨by omega, by omega⟩ (fun h92 => ?_) (fun h92 => ?_)
              · refine tn_iinc (q0 := 5) (L' := [(3, .int (iI (i3 + 1))), (2, .int (iI z77)), (7, .int (iI z51)), (6, .int (iI v7)), (0, .ref a), (1, .ref rx1), (4, .int (iI c4)), (5, .int (iI i5))]) dX6_fold_133 rfl (by decide) rfl ?_
                obtain ⟨z93, g94, g94e⟩ := wr_ex (i3 + 1)
                rw [g94e]
                have g94r : -2147483648 ≤ z93 ∧ z93 ≤ 2147483647 := g94
                refine tn_iinc (q0 := 7) (L' := [(5, .int (iI (i5 + 1))), (3, .int (iI z93)), (2, .int (iI z77)), (7, .int (iI z51)), (6, .int (iI v7)), (0, .ref a), (1, .ref rx1), (4, .int (iI c4))]) dX6_fold_136 rfl (by decide) rfl ?_
                refine tn_goto (tgt := 21) dX6_fold_139 (by decide) ?_
                exact tn_sub [5, 6, 2, 1, 7, 0] rfl (ih _ (by omega) (z77) (z93) (i5 + 1) σ80 w84 ((((FrC.rfl.trans (FrC.sub hF (by decide))).trans (FrC.sub F40 (by decide))).trans (FrC.sub F48 (by decide))).trans (FrC.sub F85 (by decide))) (by omega) (by omega) (by omega) rfl)
              · refine tn_aload_n dX6_fold_125 rfl 4 rfl ?_
                refine tn_iload_n dX6_fold_126 rfl 5 rfl ?_
                refine tn_callV (M := m_X6_fold) (pc := 127) (ix := 59) (ci := 1) (M' := m_X1_removeRow) (As := [.int (iI i3)]) (rest := []) dX6_fold_127 ok_X1_removeRow im_X1_removeRow se_X1_removeRow ml6_59 np_X1_removeRow rfl rfl h_rx1 rfl (Nat.le_of_ble_eq_true rfl) (Nat.le_of_ble_eq_true rfl) rfl (k_X1_removeRow (d + 2) (T := T) (σ := σ80) (a := rx1) (k := i3) h_rx1 t_rx1 (by omega) w84 ) (fun r95 T97 σ96 gt98 hp => ?_)
                obtain ⟨rfl, rfl, w100, F101⟩ := hp
                clear gt98
                show Tn _ _ 130 T σ96 [(2, .int (iI z77)), (7, .int (iI z51)), (6, .int (iI v7)), (0, .ref a), (1, .ref rx1), (3, .int (iI i3)), (4, .int (iI c4)), (5, .int (iI i5))] [] _
                refine tn_goto (tgt := 136) dX6_fold_130 (by decide) ?_
                refine tn_iinc (q0 := 7) (L' := [(5, .int (iI (i5 + 1))), (2, .int (iI z77)), (7, .int (iI z51)), (6, .int (iI v7)), (0, .ref a), (1, .ref rx1), (3, .int (iI i3)), (4, .int (iI c4))]) dX6_fold_136 rfl (by decide) rfl ?_
                refine tn_goto (tgt := 21) dX6_fold_139 (by decide) ?_
                exact tn_sub [4, 5, 1, 6, 7, 0] rfl (ih _ (by omega) (z77) (i3) (i5 + 1) σ96 w100 (((((FrC.rfl.trans (FrC.sub hF (by decide))).trans (FrC.sub F40 (by decide))).trans (FrC.sub F48 (by decide))).trans (FrC.sub F85 (by decide))).trans (FrC.sub F101 (by decide))) (by omega) (by omega) (by omega) rfl)
        · refine tn_aload_n dX6_fold_61 rfl 1 rfl ?_
          refine tn_aload_n dX6_fold_62 rfl 2 rfl ?_
          refine tn_iload_n dX6_fold_63 rfl 4 rfl ?_
          refine tn_callV (M := m_X6_fold) (pc := 64) (ix := 38) (ci := 6) (M' := m_X6_foldBind) (As := [.ref rx1, .int (iI i3)]) (rest := []) dX6_fold_64 ok_X6_foldBind im_X6_foldBind se_X6_foldBind ml6_38 np_X6_foldBind rfl rfl h_a rfl (Nat.le_of_ble_eq_true rfl) (Nat.le_of_ble_eq_true rfl) rfl (k_X6_foldBind (d) (T := T) (σ := σ) (a := a) (p1 := rx1) (p2 := i3) h_a h_rx1 t_rx1 (by omega) hw ) (fun r102 T104 σ103 gt105 hp => ?_)
          obtain ⟨rfl, rfl, w107, F108⟩ := hp
          clear gt105
          show Tn _ _ 67 T σ103 [(6, .int (iI v7)), (0, .ref a), (1, .ref rx1), (2, .int (iI i2)), (3, .int (iI i3)), (4, .int (iI c4)), (5, .int (iI i5))] [] _
          refine tn_goto (tgt := 116) dX6_fold_67 (by decide) ?_
          refine tn_aload_n dX6_fold_116 rfl 1 rfl ?_
          refine tn_aload_n dX6_fold_117 rfl 2 rfl ?_
          refine tn_iload_n dX6_fold_118 rfl 4 rfl ?_
          refine tn_callV (M := m_X6_fold) (pc := 119) (ix := 56) (ci := 6) (M' := m_X6_goesOut) (As := [.ref rx1, .int (iI i3)]) (rest := []) dX6_fold_119 ok_X6_goesOut im_X6_goesOut se_X6_goesOut ml6_56 np_X6_goesOut rfl rfl h_a rfl (Nat.le_of_ble_eq_true rfl) (Nat.le_of_ble_eq_true rfl) rfl (k_X6_goesOut (d + 1) (T := T) (σ := σ103) (a := a) (p1 := rx1) (p2 := i3) h_a h_rx1 t_rx1 (by omega) w107 ) (fun r109 T111 σ110 gt112 hp => ?_)
          obtain ⟨v114, rfl, rfl, rfl, f113⟩ := hp
          clear gt112
          show Tn _ _ 122 T σ103 [(6, .int (iI v7)), (0, .ref a), (1, .ref rx1), (2, .int (iI i2)), (3, .int (iI i3)), (4, .int (iI c4)), (5, .int (iI i5))] [.int (iI v114)] _
          refine tn_if_eq (tgt := 133) dX6_fold_122 (by decide) ⟨by omega, by omega⟩ (fun h115 => ?_) (fun h115 => ?_)
          · refine tn_iinc (q0 := 4) (L' := [(3, .int (iI (i3 + 1))), (6, .int (iI v7)), (0, .ref a), (1, .ref rx1), (2, .int (iI i2)), (4, .int (iI c4)), (5, .int (iI i5))]) dX6_fold_133 rfl (by decide) rfl ?_
            obtain ⟨z116, g117, g117e⟩ := wr_ex (i3 + 1)
            rw [g117e]
            have g117r : -2147483648 ≤ z116 ∧ z116 ≤ 2147483647 := g117
            refine tn_iinc (q0 := 6) (L' := [(5, .int (iI (i5 + 1))), (3, .int (iI z116)), (6, .int (iI v7)), (0, .ref a), (1, .ref rx1), (2, .int (iI i2)), (4, .int (iI c4))]) dX6_fold_136 rfl (by decide) rfl ?_
            refine tn_goto (tgt := 21) dX6_fold_139 (by decide) ?_
            exact tn_sub [3, 4, 5, 1, 6, 0] rfl (ih _ (by omega) (i2) (z116) (i5 + 1) σ103 w107 ((FrC.rfl.trans (FrC.sub hF (by decide))).trans (FrC.sub F108 (by decide))) (by omega) (by omega) (by omega) rfl)
          · refine tn_aload_n dX6_fold_125 rfl 2 rfl ?_
            refine tn_iload_n dX6_fold_126 rfl 4 rfl ?_
            refine tn_callV (M := m_X6_fold) (pc := 127) (ix := 59) (ci := 1) (M' := m_X1_removeRow) (As := [.int (iI i3)]) (rest := []) dX6_fold_127 ok_X1_removeRow im_X1_removeRow se_X1_removeRow ml6_59 np_X1_removeRow rfl rfl h_rx1 rfl (Nat.le_of_ble_eq_true rfl) (Nat.le_of_ble_eq_true rfl) rfl (k_X1_removeRow (d + 2) (T := T) (σ := σ103) (a := rx1) (k := i3) h_rx1 t_rx1 (by omega) w107 ) (fun r118 T120 σ119 gt121 hp => ?_)
            obtain ⟨rfl, rfl, w123, F124⟩ := hp
            clear gt121
            show Tn _ _ 130 T σ119 [(6, .int (iI v7)), (0, .ref a), (1, .ref rx1), (2, .int (iI i2)), (3, .int (iI i3)), (4, .int (iI c4)), (5, .int (iI i5))] [] _
            refine tn_goto (tgt := 136) dX6_fold_130 (by decide) ?_
            refine tn_iinc (q0 := 6) (L' := [(5, .int (iI (i5 + 1))), (6, .int (iI v7)), (0, .ref a), (1, .ref rx1), (2, .int (iI i2)), (3, .int (iI i3)), (4, .int (iI c4))]) dX6_fold_136 rfl (by decide) rfl ?_
            refine tn_goto (tgt := 21) dX6_fold_139 (by decide) ?_
            exact tn_sub [2, 3, 4, 5, 6, 0] rfl (ih _ (by omega) (i2) (i3) (i5 + 1) σ119 w123 (((FrC.rfl.trans (FrC.sub hF (by decide))).trans (FrC.sub F108 (by decide))).trans (FrC.sub F124 (by decide))) (by omega) (by omega) (by omega) rfl)
      · refine tn_aload_n dX6_fold_43 rfl 1 rfl ?_
        obtain ⟨x125, hx126, hk127, hl128⟩ : ∃ x : Nat, σ0.2.1 52 a = (x : Int) ∧ AR T x 1 192 192 := wf_52 hw0 h_a
        have hk127i : IA T x125 := by unfold IA; omega
        refine tn_getR (ci := 6) (i := 0) (n := 52) (x := x125) dX6_fold_44 rfl lay_6 (by decide) fl6_9 h_a rfl rfl (rc_F hF (Or.inl (by decide)) (by decide) (hx126)) ?_
        refine tn_iconst dX6_fold_47 ?_
        refine tn_callS (M := m_X6_fold) (pc := 48) (ix := 28) (M' := m_J7_fill_53178) (As := [.ref x125, .int (iI 0)]) (rest := []) dX6_fold_48 ok_J7_fill_53178 stt_J7_fill_53178 ml6_28 np_J7_fill_53178 rfl (Nat.le_of_ble_eq_true rfl) (Nat.le_of_ble_eq_true rfl) rfl (k_J7_fill_53178 (d + 2) (T := T) (σ := σ) (x := x125) (y := 0) hk127i (by omega) (by decide) hw (nh_k hk127 (by unfold HT; omega)) (by omega)) (fun r129 T131 σ130 gt132 hp => ?_)
        obtain ⟨rfl, rfl, w134, F135⟩ := hp
        clear gt132
        show Tn _ _ 51 T σ130 [(6, .int (iI v7)), (0, .ref a), (1, .ref rx1), (2, .int (iI i2)), (3, .int (iI i3)), (4, .int (iI c4)), (5, .int (iI i5))] [] _
        refine tn_goto (tgt := 116) dX6_fold_51 (by decide) ?_
        refine tn_aload_n dX6_fold_116 rfl 1 rfl ?_
        refine tn_aload_n dX6_fold_117 rfl 2 rfl ?_
        refine tn_iload_n dX6_fold_118 rfl 4 rfl ?_
        refine tn_callV (M := m_X6_fold) (pc := 119) (ix := 56) (ci := 6) (M' := m_X6_goesOut) (As := [.ref rx1, .int (iI i3)]) (rest := []) dX6_fold_119 ok_X6_goesOut im_X6_goesOut se_X6_goesOut ml6_56 np_X6_goesOut rfl rfl h_a rfl (Nat.le_of_ble_eq_true rfl) (Nat.le_of_ble_eq_true rfl) rfl (k_X6_goesOut (d + 1) (T := T) (σ := σ130) (a := a) (p1 := rx1) (p2 := i3) h_a h_rx1 t_rx1 (by omega) w134 ) (fun r136 T138 σ137 gt139 hp => ?_)
        obtain ⟨v141, rfl, rfl, rfl, f140⟩ := hp
        clear gt139
        show Tn _ _ 122 T σ130 [(6, .int (iI v7)), (0, .ref a), (1, .ref rx1), (2, .int (iI i2)), (3, .int (iI i3)), (4, .int (iI c4)), (5, .int (iI i5))] [.int (iI v141)] _
        refine tn_if_eq (tgt := 133) dX6_fold_122 (by decide) ⟨by omega, by omega⟩ (fun h142 => ?_) (fun h142 => ?_)
        · refine tn_iinc (q0 := 4) (L' := [(3, .int (iI (i3 + 1))), (6, .int (iI v7)), (0, .ref a), (1, .ref rx1), (2, .int (iI i2)), (4, .int (iI c4)), (5, .int (iI i5))]) dX6_fold_133 rfl (by decide) rfl ?_
          obtain ⟨z143, g144, g144e⟩ := wr_ex (i3 + 1)
          rw [g144e]
          have g144r : -2147483648 ≤ z143 ∧ z143 ≤ 2147483647 := g144
          refine tn_iinc (q0 := 6) (L' := [(5, .int (iI (i5 + 1))), (3, .int (iI z143)), (6, .int (iI v7)), (0, .ref a), (1, .ref rx1), (2, .int (iI i2)), (4, .int (iI c4))]) dX6_fold_136 rfl (by decide) rfl ?_
          refine tn_goto (tgt := 21) dX6_fold_139 (by decide) ?_
          exact tn_sub [3, 4, 5, 1, 6, 0] rfl (ih _ (by omega) (i2) (z143) (i5 + 1) σ130 w134 ((FrC.rfl.trans (FrC.sub hF (by decide))).trans (FrC.sub F135 (by decide))) (by omega) (by omega) (by omega) rfl)
        · refine tn_aload_n dX6_fold_125 rfl 2 rfl ?_
          refine tn_iload_n dX6_fold_126 rfl 4 rfl ?_
          refine tn_callV (M := m_X6_fold) (pc := 127) (ix := 59) (ci := 1) (M' := m_X1_removeRow) (As := [.int (iI i3)]) (rest := []) dX6_fold_127 ok_X1_removeRow im_X1_removeRow se_X1_removeRow ml6_59 np_X1_removeRow rfl rfl h_rx1 rfl (Nat.le_of_ble_eq_true rfl) (Nat.le_of_ble_eq_true rfl) rfl (k_X1_removeRow (d + 2) (T := T) (σ := σ130) (a := rx1) (k := i3) h_rx1 t_rx1 (by omega) w134 ) (fun r145 T147 σ146 gt148 hp => ?_)
          obtain ⟨rfl, rfl, w150, F151⟩ := hp
          clear gt148
          show Tn _ _ 130 T σ146 [(6, .int (iI v7)), (0, .ref a), (1, .ref rx1), (2, .int (iI i2)), (3, .int (iI i3)), (4, .int (iI c4)), (5, .int (iI i5))] [] _
          refine tn_goto (tgt := 136) dX6_fold_130 (by decide) ?_
          refine tn_iinc (q0 := 6) (L' := [(5, .int (iI (i5 + 1))), (6, .int (iI v7)), (0, .ref a), (1, .ref rx1), (2, .int (iI i2)), (3, .int (iI i3)), (4, .int (iI c4))]) dX6_fold_136 rfl (by decide) rfl ?_
          refine tn_goto (tgt := 21) dX6_fold_139 (by decide) ?_
          exact tn_sub [2, 3, 4, 5, 6, 0] rfl (ih _ (by omega) (i2) (i3) (i5 + 1) σ146 w150 (((FrC.rfl.trans (FrC.sub hF (by decide))).trans (FrC.sub F135 (by decide))).trans (FrC.sub F151 (by decide))) (by omega) (by omega) (by omega) rfl)
theorem dX6_fold_142 : decode cX6_fold 142 = .ok (.iload_n 2, 1) := by decide +kernel
theorem dX6_fold_143 : decode cX6_fold 143 = .ok (.ireturn, 1) := by decide +kernel
set_option maxRecDepth 20000 in
theorem k_X6_fold (d : Nat) {T : CT} {σ : MS} {a : Nat} {p1 : Nat} (ha : OB T a 6) (h_p1 : OB T p1 1) (t_p1 : (T p1).1 = 50) (hw : WT T σ) : Tn (d + 4) m_X6_fold 0 T σ [(0, .ref a), (1, .ref p1)] [] (fun ro T2 σ2 => ∃ v : Int, ro = some (.int (iI v)) ∧ T = T2 ∧ WT T2 σ2 ∧ FrC T [6] σ σ2 ∧ (-2147483648 ≤ v ∧ v ≤ 2147483647)) := by
  refine tn_iconst dX6_fold_0 ?_
  refine tn_istore_n (L' := [(2, .int (iI 0)), (0, .ref a), (1, .ref p1)]) dX6_fold_1 rfl (by decide) rfl ?_
  refine tn_iconst dX6_fold_2 ?_
  refine tn_istore_n (L' := [(3, .int (iI 0)), (2, .int (iI 0)), (0, .ref a), (1, .ref p1)]) dX6_fold_3 rfl (by decide) rfl ?_
  refine tn_aload_n dX6_fold_4 rfl 3 rfl ?_
  refine tn_getI (ci := 1) (i := 1) (n := 6) (t := σ.2.1 6 p1) dX6_fold_5 rfl lay_1 (by decide) fl6_22 h_p1 rfl rfl (rfl) ?_
  have g1 : ((0 : Int) ≤ σ.2.1 6 p1 ∧ σ.2.1 6 p1 ≤ 5000) ∧ ((T p1).1 = 50 → σ.2.1 6 p1 ≤ 200) := wf_6 hw h_p1
  have g1x := g1.2
  replace g1 := g1.1
  have g1x := g1x t_p1
  refine tn_istore (L' := [(4, .int (iI (σ.2.1 6 p1))), (3, .int (iI 0)), (2, .int (iI 0)), (0, .ref a), (1, .ref p1)]) dX6_fold_8 (by decide) rfl ?_
  refine tn_aload_n dX6_fold_10 rfl 3 rfl ?_
  obtain ⟨x2, hx3, hk4, hl5⟩ : ∃ x : Nat, σ.2.1 52 a = (x : Int) ∧ AR T x 1 192 192 := wf_52 hw ha
  have hk4i : IA T x2 := by unfold IA; omega
  refine tn_getR (ci := 6) (i := 0) (n := 52) (x := x2) dX6_fold_11 rfl lay_6 (by decide) fl6_9 ha rfl rfl (hx3) ?_
  refine tn_iconst dX6_fold_14 ?_
  refine tn_callS (M := m_X6_fold) (pc := 15) (ix := 28) (M' := m_J7_fill_53178) (As := [.ref x2, .int (iI 0)]) (rest := []) dX6_fold_15 ok_J7_fill_53178 stt_J7_fill_53178 ml6_28 np_J7_fill_53178 rfl (Nat.le_of_ble_eq_true rfl) (Nat.le_of_ble_eq_true rfl) rfl (k_J7_fill_53178 (d + 2) (T := T) (σ := σ) (x := x2) (y := 0) hk4i (by omega) (by decide) hw (nh_k hk4 (by unfold HT; omega)) (by omega)) (fun r6 T8 σ7 gt9 hp => ?_)
  obtain ⟨rfl, rfl, w11, F12⟩ := hp
  clear gt9
  show Tn _ _ 18 T σ7 [(4, .int (iI (σ.2.1 6 p1))), (3, .int (iI 0)), (2, .int (iI 0)), (0, .ref a), (1, .ref p1)] [] _
  refine tn_iconst dX6_fold_18 ?_
  refine tn_istore (L' := [(5, .int (iI 0)), (4, .int (iI (σ.2.1 6 p1))), (3, .int (iI 0)), (2, .int (iI 0)), (0, .ref a), (1, .ref p1)]) dX6_fold_19 (by decide) rfl ?_
  refine tn_sub [4, 5, 3, 2, 1, 0] rfl (l_X6_fold_21 (d) (T := T) (σ0 := σ7) (a := a) (rx1 := p1) (c4 := σ.2.1 6 p1) ha h_p1 t_p1 (by omega) w11 (fun i213 i314 i515 σ16 w19 F20 r21 r22 r23 => ?_) _ (0) (0) (0) σ7 w11 FrC.rfl (by omega) (by omega) (by omega) rfl)
  show Tn _ _ 142 T σ16 [(0, .ref a), (1, .ref p1), (2, .int (iI i213)), (3, .int (iI i314)), (4, .int (iI (σ.2.1 6 p1))), (5, .int (iI i515))] [] _
  refine tn_iload_n dX6_fold_142 rfl 2 rfl ?_
  exact tn_iret rfl dX6_fold_143 ⟨_, rfl, rfl, w19, ((FrC.rfl.trans (FrC.sub F12 (by decide))).trans (FrC.sub F20 (by decide))), by omega⟩
end
section
theorem cd_X6_lastJumpTo : Cond.code yX6_lastJumpTo cX6_lastJumpTo 4 (some .int) ∈ pWW := pw5 (List.mem_of_getElem? (i := 93) rfl) rfl
abbrev m_X6_lastJumpTo : MT := (yX6_lastJumpTo, cX6_lastJumpTo, 4, (some .int))
theorem ok_X6_lastJumpTo : pOk m_X6_lastJumpTo := ⟨⟨cd_X6_lastJumpTo, ini_6⟩, by decide +kernel, ⟨by decide +kernel, by decide +kernel⟩, Nat.le_of_ble_eq_true rfl⟩
theorem np_X6_lastJumpTo : (parseMethodDescriptor yX6_lastJumpTo.desc).map (fun d => d.parameters.length) = some 2 := by decide +kernel
theorem im_X6_lastJumpTo : Cond.instanceMethod yX6_lastJumpTo ∈ pWW := pw5 (List.mem_of_getElem? (i := 92) rfl) rfl
theorem se_X6_lastJumpTo : Cond.selects RX6 yX6_lastJumpTo yX6_lastJumpTo ∈ pWW := pws (List.mem_map.mpr ⟨_, lw_pin 58 rfl, rfl⟩) rfl
theorem dX6_lastJumpTo_0 : decode cX6_lastJumpTo 0 = .ok (.aload_n 1, 1) := by decide +kernel
theorem dX6_lastJumpTo_1 : decode cX6_lastJumpTo 1 = .ok (.getfield 22, 3) := by decide +kernel
theorem dX6_lastJumpTo_4 : decode cX6_lastJumpTo 4 = .ok (.iconst 1, 1) := by decide +kernel
theorem dX6_lastJumpTo_5 : decode cX6_lastJumpTo 5 = .ok (.isub, 1) := by decide +kernel
theorem dX6_lastJumpTo_6 : decode cX6_lastJumpTo 6 = .ok (.istore_n 3, 1) := by decide +kernel
theorem dX6_lastJumpTo_7 : decode cX6_lastJumpTo 7 = .ok (.iload_n 3, 1) := by decide +kernel
theorem dX6_lastJumpTo_8 : decode cX6_lastJumpTo 8 = .ok (.iload_n 2, 1) := by decide +kernel
theorem dX6_lastJumpTo_9 : decode cX6_lastJumpTo 9 = .ok (.if_icmp .le 37, 3) := by decide +kernel
theorem dX6_lastJumpTo_12 : decode cX6_lastJumpTo 12 = .ok (.aload_n 1, 1) := by decide +kernel
theorem dX6_lastJumpTo_13 : decode cX6_lastJumpTo 13 = .ok (.iload_n 3, 1) := by decide +kernel
theorem dX6_lastJumpTo_14 : decode cX6_lastJumpTo 14 = .ok (.iconst 0, 1) := by decide +kernel
theorem dX6_lastJumpTo_15 : decode cX6_lastJumpTo 15 = .ok (.invokevirtual 34, 3) := by decide +kernel
theorem dX6_lastJumpTo_18 : decode cX6_lastJumpTo 18 = .ok (.bipush 8, 2) := by decide +kernel
theorem dX6_lastJumpTo_20 : decode cX6_lastJumpTo 20 = .ok (.if_icmp .ne 20, 3) := by decide +kernel
theorem dX6_lastJumpTo_40 : decode cX6_lastJumpTo 40 = .ok (.iinc 3 (-1), 3) := by decide +kernel
theorem dX6_lastJumpTo_43 : decode cX6_lastJumpTo 43 = .ok (.goto (-36), 3) := by decide +kernel
theorem dX6_lastJumpTo_23 : decode cX6_lastJumpTo 23 = .ok (.aload_n 1, 1) := by decide +kernel
theorem dX6_lastJumpTo_24 : decode cX6_lastJumpTo 24 = .ok (.iload_n 3, 1) := by decide +kernel
theorem dX6_lastJumpTo_25 : decode cX6_lastJumpTo 25 = .ok (.iconst 1, 1) := by decide +kernel
theorem dX6_lastJumpTo_26 : decode cX6_lastJumpTo 26 = .ok (.invokevirtual 34, 3) := by decide +kernel
theorem dX6_lastJumpTo_29 : decode cX6_lastJumpTo 29 = .ok (.aload_n 1, 1) := by decide +kernel
theorem dX6_lastJumpTo_30 : decode cX6_lastJumpTo 30 = .ok (.iload_n 2, 1) := by decide +kernel
theorem dX6_lastJumpTo_31 : decode cX6_lastJumpTo 31 = .ok (.iconst 1, 1) := by decide +kernel
theorem dX6_lastJumpTo_32 : decode cX6_lastJumpTo 32 = .ok (.invokevirtual 34, 3) := by decide +kernel
theorem dX6_lastJumpTo_35 : decode cX6_lastJumpTo 35 = .ok (.if_icmp .ne 5, 3) := by decide +kernel
set_option maxRecDepth 20000 in
theorem l_X6_lastJumpTo_7 (d : Nat) {T : CT} {σ : MS} {rx1 : Nat} {c2 : Int} {post : Option Value → CT → MS → Prop} (h_rx1 : OB T rx1 1) (t_rx1 : (T rx1).1 = 50) (r_c2 : 0 ≤ c2 ∧ c2 ≤ 2147483647) (hw : WT T σ) (hx_38 : ∀ (i3 : Int) , (-1 ≤ i3 ∧ i3 ≤ 199) → Tn (d + 2) m_X6_lastJumpTo 38 T σ [(1, .ref rx1), (2, .int (iI c2)), (3, .int (iI i3))] [] post) (hx_46 : ∀ (i3 : Int) , (-1 ≤ i3 ∧ i3 ≤ 199) → Tn (d + 2) m_X6_lastJumpTo 46 T σ [(1, .ref rx1), (2, .int (iI c2)), (3, .int (iI i3))] [] post) : ∀ (n : Nat) (i3 : Int) , (-1 ≤ i3 ∧ i3 ≤ 199) → (i3 + 20).toNat = n → Tn (d + 2) m_X6_lastJumpTo 7 T σ [(1, .ref rx1), (2, .int (iI c2)), (3, .int (iI i3))] [] post := by
  intro n
  induction n using Nat.strongRecOn with
  | _ n ih =>
    intro i3 r_i3 hm
    refine tn_iload_n dX6_lastJumpTo_7 rfl 2 rfl ?_
    refine tn_iload_n dX6_lastJumpTo_8 rfl 1 rfl ?_
    refine tn_icmp_le (tgt := 46) dX6_lastJumpTo_9 (by decide) ⟨by omega, by omega⟩ ⟨by omega, by omega⟩ (fun h1 => ?_) (fun h1 => ?_)
    · exact tn_sub [0, 1, 2] rfl (hx_46 (i3) (by omega))
    · refine tn_aload_n dX6_lastJumpTo_12 rfl 0 rfl ?_
      refine tn_iload_n dX6_lastJumpTo_13 rfl 2 rfl ?_
      refine tn_iconst dX6_lastJumpTo_14 ?_
      refine tn_callV (M := m_X6_lastJumpTo) (pc := 15) (ix := 34) (ci := 1) (M' := m_X1_get) (As := [.int (iI i3), .int (iI 0)]) (rest := []) dX6_lastJumpTo_15 ok_X1_get im_X1_get se_X1_get ml6_34 np_X1_get rfl rfl h_rx1 rfl (Nat.le_of_ble_eq_true rfl) (Nat.le_of_ble_eq_true rfl) rfl (k_X1_get (d) (T := T) (σ := σ) (a := rx1) (k := i3) (c := 0) h_rx1 (by omega) (by decide) hw (by omega)) (fun r2 T4 σ3 gt5 hp => ?_)
      obtain ⟨v7, rfl, rfl, rfl, f6⟩ := hp
      clear gt5
      show Tn _ _ 18 T σ [(1, .ref rx1), (2, .int (iI c2)), (3, .int (iI i3))] [.int (iI v7)] _
      refine tn_bipush dX6_lastJumpTo_18 (by decide) ?_
      refine tn_icmp_ne (tgt := 40) dX6_lastJumpTo_20 (by decide) ⟨by omega, by omega⟩ ⟨by decide, by decide⟩ (fun h8 => ?_) (fun h8 => ?_)
      · refine tn_iinc (q0 := 2) (L' := [(3, .int (iI (i3 + (-1)))), (1, .ref rx1), (2, .int (iI c2))]) dX6_lastJumpTo_40 rfl (by decide) rfl ?_
        refine tn_goto (tgt := 7) dX6_lastJumpTo_43 (by decide) ?_
        exact tn_sub [1, 2, 0] rfl (ih _ (by omega) (i3 + (-1)) (by omega) rfl)
      · refine tn_aload_n dX6_lastJumpTo_23 rfl 0 rfl ?_
        refine tn_iload_n dX6_lastJumpTo_24 rfl 2 rfl ?_
        refine tn_iconst dX6_lastJumpTo_25 ?_
        refine tn_callV (M := m_X6_lastJumpTo) (pc := 26) (ix := 34) (ci := 1) (M' := m_X1_get) (As := [.int (iI i3), .int (iI 1)]) (rest := []) dX6_lastJumpTo_26 ok_X1_get im_X1_get se_X1_get ml6_34 np_X1_get rfl rfl h_rx1 rfl (Nat.le_of_ble_eq_true rfl) (Nat.le_of_ble_eq_true rfl) rfl (k_X1_get (d) (T := T) (σ := σ) (a := rx1) (k := i3) (c := 1) h_rx1 (by omega) (by decide) hw (by omega)) (fun r9 T11 σ10 gt12 hp => ?_)
        obtain ⟨v14, rfl, rfl, rfl, f13⟩ := hp
        clear gt12
        show Tn _ _ 29 T σ [(1, .ref rx1), (2, .int (iI c2)), (3, .int (iI i3))] [.int (iI v14)] _
        refine tn_aload_n dX6_lastJumpTo_29 rfl 0 rfl ?_
        refine tn_iload_n dX6_lastJumpTo_30 rfl 1 rfl ?_
        refine tn_iconst dX6_lastJumpTo_31 ?_
        refine tn_callV (M := m_X6_lastJumpTo) (pc := 32) (ix := 34) (ci := 1) (M' := m_X1_get) (As := [.int (iI c2), .int (iI 1)]) (rest := [.int (iI v14)]) dX6_lastJumpTo_32 ok_X1_get im_X1_get se_X1_get ml6_34 np_X1_get rfl rfl h_rx1 rfl (Nat.le_of_ble_eq_true rfl) (Nat.le_of_ble_eq_true rfl) rfl (k_X1_get (d) (T := T) (σ := σ) (a := rx1) (k := c2) (c := 1) h_rx1 (by omega) (by decide) hw (by omega)) (fun r15 T17 σ16 gt18 hp => ?_)
        obtain ⟨v20, rfl, rfl, rfl, f19⟩ := hp
        clear gt18
        show Tn _ _ 35 T σ [(1, .ref rx1), (2, .int (iI c2)), (3, .int (iI i3))] [.int (iI v20), .int (iI v14)] _
        refine tn_icmp_ne (tgt := 40) dX6_lastJumpTo_35 (by decide) ⟨by omega, by omega⟩ ⟨by omega, by omega⟩ (fun h21 => ?_) (fun h21 => ?_)
        · refine tn_iinc (q0 := 2) (L' := [(3, .int (iI (i3 + (-1)))), (1, .ref rx1), (2, .int (iI c2))]) dX6_lastJumpTo_40 rfl (by decide) rfl ?_
          refine tn_goto (tgt := 7) dX6_lastJumpTo_43 (by decide) ?_
          exact tn_sub [1, 2, 0] rfl (ih _ (by omega) (i3 + (-1)) (by omega) rfl)
        · exact tn_sub [0, 1, 2] rfl (hx_38 (i3) (by omega))
theorem dX6_lastJumpTo_38 : decode cX6_lastJumpTo 38 = .ok (.iload_n 3, 1) := by decide +kernel
theorem dX6_lastJumpTo_39 : decode cX6_lastJumpTo 39 = .ok (.ireturn, 1) := by decide +kernel
theorem dX6_lastJumpTo_46 : decode cX6_lastJumpTo 46 = .ok (.iconst (-1), 1) := by decide +kernel
theorem dX6_lastJumpTo_47 : decode cX6_lastJumpTo 47 = .ok (.ireturn, 1) := by decide +kernel
set_option maxRecDepth 20000 in
theorem k_X6_lastJumpTo (d : Nat) {T : CT} {σ : MS} {a : Nat} {p1 : Nat} {p2 : Int} (ha : OB T a 6) (h_p1 : OB T p1 1) (t_p1 : (T p1).1 = 50) (h_p2 : -2147483648 ≤ p2 ∧ p2 ≤ 2147483647) (hw : WT T σ) (hl : 0 ≤ p2) : Tn (d + 2) m_X6_lastJumpTo 0 T σ [(0, .ref a), (1, .ref p1), (2, .int (iI p2))] [] (fun ro T2 σ2 => ∃ v : Int, ro = some (.int (iI v)) ∧ T = T2 ∧ σ = σ2 ∧ (-1 ≤ v ∧ v ≤ 5000) ∧ (-1 ≤ v ∧ v ≤ 5000)) := by
  refine tn_aload_n dX6_lastJumpTo_0 rfl 1 rfl ?_
  refine tn_getI (ci := 1) (i := 1) (n := 6) (t := σ.2.1 6 p1) dX6_lastJumpTo_1 rfl lay_1 (by decide) fl6_22 h_p1 rfl rfl (rfl) ?_
  have g1 : ((0 : Int) ≤ σ.2.1 6 p1 ∧ σ.2.1 6 p1 ≤ 5000) ∧ ((T p1).1 = 50 → σ.2.1 6 p1 ≤ 200) := wf_6 hw h_p1
  have g1x := g1.2
  replace g1 := g1.1
  have g1x := g1x t_p1
  refine tn_iconst dX6_lastJumpTo_4 ?_
  refine tn_isub dX6_lastJumpTo_5 ?_
  refine tn_istore_n (L' := [(3, .int (iI ((σ.2.1 6 p1) - 1))), (0, .ref a), (1, .ref p1), (2, .int (iI p2))]) dX6_lastJumpTo_6 rfl (by decide) rfl ?_
  refine tn_sub [2, 3, 0] rfl (l_X6_lastJumpTo_7 (d) (T := T) (σ := σ) (rx1 := p1) (c2 := p2) h_p1 t_p1 (by omega) hw (fun i32 r8 => ?_) (fun i39 r15 => ?_) _ ((σ.2.1 6 p1) - 1) (by omega) rfl)
  · show Tn _ _ 38 T σ [(1, .ref p1), (2, .int (iI p2)), (3, .int (iI i32))] [] _
    refine tn_iload_n dX6_lastJumpTo_38 rfl 2 rfl ?_
    exact tn_iret rfl dX6_lastJumpTo_39 ⟨_, rfl, rfl, rfl, by omega, by omega⟩
  · show Tn _ _ 46 T σ [(1, .ref p1), (2, .int (iI p2)), (3, .int (iI i39))] [] _
    refine tn_iconst dX6_lastJumpTo_46 ?_
    exact tn_iret rfl dX6_lastJumpTo_47 ⟨_, rfl, rfl, rfl, by omega, by omega⟩
end
section
theorem cd_X6_collectWritten : Cond.code yX6_collectWritten cX6_collectWritten 5 none ∈ pWW := pw5 (List.mem_of_getElem? (i := 101) rfl) rfl
abbrev m_X6_collectWritten : MT := (yX6_collectWritten, cX6_collectWritten, 5, none)
theorem ok_X6_collectWritten : pOk m_X6_collectWritten := ⟨⟨cd_X6_collectWritten, ini_6⟩, by decide +kernel, ⟨by decide +kernel, by decide +kernel⟩, Nat.le_of_ble_eq_true rfl⟩
theorem np_X6_collectWritten : (parseMethodDescriptor yX6_collectWritten.desc).map (fun d => d.parameters.length) = some 3 := by decide +kernel
theorem im_X6_collectWritten : Cond.instanceMethod yX6_collectWritten ∈ pWW := pw5 (List.mem_of_getElem? (i := 100) rfl) rfl
theorem se_X6_collectWritten : Cond.selects RX6 yX6_collectWritten yX6_collectWritten ∈ pWW := pws (List.mem_map.mpr ⟨_, lw_pin 60 rfl, rfl⟩) rfl
theorem fl6_18 : Cond.fieldLink RX6 18 (TX6 2).1 (TX6 2).2.1 (TX6 2).2.2.1 ∈ pWW := pw2 (List.mem_of_getElem? (i := 37) rfl) rfl
theorem nl6_123 : (RX6, 123, yX11_clear, "LineKeeper") ∈ nst_M := List.mem_of_getElem? (i := 32) rfl
theorem nl6_127 : (RX6, 127, yX11_include, "LineKeeper") ∈ nst_M := List.mem_of_getElem? (i := 33) rfl
theorem dX6_collectWritten_0 : decode cX6_collectWritten 0 = .ok (.aload_n 0, 1) := by decide +kernel
theorem dX6_collectWritten_1 : decode cX6_collectWritten 1 = .ok (.getfield 18, 3) := by decide +kernel
theorem dX6_collectWritten_4 : decode cX6_collectWritten 4 = .ok (.iconst 3, 1) := by decide +kernel
theorem dX6_collectWritten_5 : decode cX6_collectWritten 5 = .ok (.invokestatic 123, 3) := by decide +kernel
theorem dX6_collectWritten_8 : decode cX6_collectWritten 8 = .ok (.iload_n 2, 1) := by decide +kernel
theorem dX6_collectWritten_9 : decode cX6_collectWritten 9 = .ok (.istore 4, 2) := by decide +kernel
theorem dX6_collectWritten_11 : decode cX6_collectWritten 11 = .ok (.iload 4, 2) := by decide +kernel
theorem dX6_collectWritten_13 : decode cX6_collectWritten 13 = .ok (.iload_n 3, 1) := by decide +kernel
theorem dX6_collectWritten_14 : decode cX6_collectWritten 14 = .ok (.if_icmp .gt 23, 3) := by decide +kernel
theorem dX6_collectWritten_17 : decode cX6_collectWritten 17 = .ok (.aload_n 0, 1) := by decide +kernel
theorem dX6_collectWritten_18 : decode cX6_collectWritten 18 = .ok (.getfield 18, 3) := by decide +kernel
theorem dX6_collectWritten_21 : decode cX6_collectWritten 21 = .ok (.iconst 0, 1) := by decide +kernel
theorem dX6_collectWritten_22 : decode cX6_collectWritten 22 = .ok (.aload_n 1, 1) := by decide +kernel
theorem dX6_collectWritten_23 : decode cX6_collectWritten 23 = .ok (.iload 4, 2) := by decide +kernel
theorem dX6_collectWritten_25 : decode cX6_collectWritten 25 = .ok (.invokevirtual 84, 3) := by decide +kernel
theorem dX6_collectWritten_28 : decode cX6_collectWritten 28 = .ok (.invokestatic 127, 3) := by decide +kernel
theorem dX6_collectWritten_31 : decode cX6_collectWritten 31 = .ok (.iinc 4 1, 3) := by decide +kernel
theorem dX6_collectWritten_34 : decode cX6_collectWritten 34 = .ok (.goto (-23), 3) := by decide +kernel
set_option maxRecDepth 20000 in
theorem l_X6_collectWritten_11 (d : Nat) {T : CT} {σ0 : MS} {a : Nat} {rx1 : Nat} {c3 : Int} {post : Option Value → CT → MS → Prop} (h_a : OB T a 6) (h_rx1 : OB T rx1 1) (t_rx1 : (T rx1).1 = 50) (r_c3 : -2147483648 ≤ c3 ∧ c3 ≤ 100000) (hw0 : WT T σ0) (hx_37 : ∀ (i4 : Int) (σ : MS) , (WT T σ) → (FrC T [] σ0 σ) → (-2147483648 ≤ i4 ∧ i4 ≤ 2147483647) → Tn (d + 4) m_X6_collectWritten 37 T σ [(0, .ref a), (1, .ref rx1), (3, .int (iI c3)), (4, .int (iI i4))] [] post) : ∀ (n : Nat) (i4 : Int) (σ : MS) , (WT T σ) → (FrC T [] σ0 σ) → (-2147483648 ≤ i4 ∧ i4 ≤ 2147483647) → (2147483700 - i4).toNat = n → Tn (d + 4) m_X6_collectWritten 11 T σ [(0, .ref a), (1, .ref rx1), (3, .int (iI c3)), (4, .int (iI i4))] [] post := by
  intro n
  induction n using Nat.strongRecOn with
  | _ n ih =>
    intro i4 σ hw hF r_i4 hm
    refine tn_iload dX6_collectWritten_11 3 rfl ?_
    refine tn_iload_n dX6_collectWritten_13 rfl 2 rfl ?_
    refine tn_icmp_gt (tgt := 37) dX6_collectWritten_14 (by decide) ⟨by omega, by omega⟩ ⟨by omega, by omega⟩ (fun h1 => ?_) (fun h1 => ?_)
    · exact tn_sub [0, 1, 2, 3] rfl (hx_37 (i4) σ hw (FrC.rfl.trans (FrC.sub hF (by decide))) (by omega))
    · refine tn_aload_n dX6_collectWritten_17 rfl 0 rfl ?_
      obtain ⟨x2, hx3, hk4, hl5⟩ : ∃ x : Nat, σ0.2.1 54 a = (x : Int) ∧ AR T x 3 3 3 := wf_54 hw0 h_a
      refine tn_getR (ci := 6) (i := 2) (n := 54) (x := x2) dX6_collectWritten_18 rfl lay_6 (by decide) fl6_18 h_a rfl rfl (rc_F hF (Or.inl (by decide)) (by decide) (hx3)) ?_
      refine tn_iconst dX6_collectWritten_21 ?_
      refine tn_aload_n dX6_collectWritten_22 rfl 1 rfl ?_
      refine tn_iload dX6_collectWritten_23 3 rfl ?_
      refine tn_callV (M := m_X6_collectWritten) (pc := 25) (ix := 84) (ci := 1) (M' := m_X1_writtenBy) (As := [.int (iI i4)]) (rest := [.int (iI 0), .ref x2]) dX6_collectWritten_25 ok_X1_writtenBy im_X1_writtenBy se_X1_writtenBy ml6_84 np_X1_writtenBy rfl rfl h_rx1 rfl (Nat.le_of_ble_eq_true rfl) (Nat.le_of_ble_eq_true rfl) rfl (k_X1_writtenBy (d + 1) (T := T) (σ := σ) (a := rx1) (k := i4) h_rx1 (by omega) hw ) (fun r6 T8 σ7 gt9 hp => ?_)
      obtain ⟨v11, rfl, rfl, rfl, f10⟩ := hp
      clear gt9
      show Tn _ _ 28 T σ [(0, .ref a), (1, .ref rx1), (3, .int (iI c3)), (4, .int (iI i4))] [.int (iI v11), .int (iI 0), .ref x2] _
      refine tn_callSN (M := m_X6_collectWritten) (pc := 28) (ix := 127) (M' := m_X11_include) (As := [.ref x2, .int (iI 0), .int (iI v11)]) (rest := []) dX6_collectWritten_28 ok_X11_include stt_X11_include nl6_127 np_X11_include rfl (Nat.le_of_ble_eq_true rfl) (Nat.le_of_ble_eq_true rfl) rfl (k_X11_include (d + 1) (T := T) (σ := σ) (x := x2) (k := 0) (r := v11) hk4 (by omega) (by decide) (by omega) hw ) (fun r12 T14 σ13 gt15 hp => ?_)
      obtain ⟨rfl, rfl, w17, F18⟩ := hp
      clear gt15
      show Tn _ _ 31 T σ13 [(0, .ref a), (1, .ref rx1), (3, .int (iI c3)), (4, .int (iI i4))] [] _
      refine tn_iinc (q0 := 3) (L' := [(4, .int (iI (i4 + 1))), (0, .ref a), (1, .ref rx1), (3, .int (iI c3))]) dX6_collectWritten_31 rfl (by decide) rfl ?_
      refine tn_goto (tgt := 11) dX6_collectWritten_34 (by decide) ?_
      exact tn_sub [1, 2, 3, 0] rfl (ih _ (by omega) (i4 + 1) σ13 w17 ((FrC.rfl.trans (FrC.sub hF (by decide))).trans (FrC.sub F18 (by decide))) (by omega) rfl)
theorem dX6_collectWritten_37 : decode cX6_collectWritten 37 = .ok (.return_, 1) := by decide +kernel
set_option maxRecDepth 20000 in
theorem k_X6_collectWritten (d : Nat) {T : CT} {σ : MS} {a : Nat} {p1 : Nat} {p2 : Int} {p3 : Int} (ha : OB T a 6) (h_p1 : OB T p1 1) (t_p1 : (T p1).1 = 50) (h_p2 : -2147483648 ≤ p2 ∧ p2 ≤ 2147483647) (h_p3 : -2147483648 ≤ p3 ∧ p3 ≤ 2147483647) (hw : WT T σ) (ht : p3 ≤ 100000) : Tn (d + 4) m_X6_collectWritten 0 T σ [(0, .ref a), (1, .ref p1), (2, .int (iI p2)), (3, .int (iI p3))] [] (fun ro T2 σ2 => ro = none ∧ T = T2 ∧ WT T2 σ2 ∧ FrC T [] σ σ2) := by
  refine tn_aload_n dX6_collectWritten_0 rfl 0 rfl ?_
  obtain ⟨x1, hx2, hk3, hl4⟩ : ∃ x : Nat, σ.2.1 54 a = (x : Int) ∧ AR T x 3 3 3 := wf_54 hw ha
  refine tn_getR (ci := 6) (i := 2) (n := 54) (x := x1) dX6_collectWritten_1 rfl lay_6 (by decide) fl6_18 ha rfl rfl (hx2) ?_
  refine tn_iconst dX6_collectWritten_4 ?_
  refine tn_callSN (M := m_X6_collectWritten) (pc := 5) (ix := 123) (M' := m_X11_clear) (As := [.ref x1, .int (iI 3)]) (rest := []) dX6_collectWritten_5 ok_X11_clear stt_X11_clear nl6_123 np_X11_clear rfl (Nat.le_of_ble_eq_true rfl) (Nat.le_of_ble_eq_true rfl) rfl (k_X11_clear (d) (T := T) (σ := σ) (x := x1) (n := 3) hk3 (by omega) (by decide) hw ) (fun r5 T7 σ6 gt8 hp => ?_)
  obtain ⟨rfl, rfl, w10, F11⟩ := hp
  clear gt8
  show Tn _ _ 8 T σ6 [(0, .ref a), (1, .ref p1), (2, .int (iI p2)), (3, .int (iI p3))] [] _
  refine tn_iload_n dX6_collectWritten_8 rfl 2 rfl ?_
  refine tn_istore (L' := [(4, .int (iI p2)), (0, .ref a), (1, .ref p1), (2, .int (iI p2)), (3, .int (iI p3))]) dX6_collectWritten_9 (by decide) rfl ?_
  refine tn_sub [1, 2, 4, 0] rfl (l_X6_collectWritten_11 (d) (T := T) (σ0 := σ6) (a := a) (rx1 := p1) (c3 := p3) ha h_p1 t_p1 (by omega) w10 (fun i412 σ13 w16 F17 r18 => ?_) _ (p2) σ6 w10 FrC.rfl (by omega) rfl)
  show Tn _ _ 37 T σ13 [(0, .ref a), (1, .ref p1), (3, .int (iI p3)), (4, .int (iI i412))] [] _
  exact tn_vret rfl dX6_collectWritten_37 ⟨rfl, rfl, w16, ((FrC.rfl.trans (FrC.sub F11 (by decide))).trans (FrC.sub F17 (by decide)))⟩
end
section
theorem cd_X6_standsStill : Cond.code yX6_standsStill cX6_standsStill 3 (some .boolean) ∈ pWW := pw5 (List.mem_of_getElem? (i := 108) rfl) rfl
abbrev m_X6_standsStill : MT := (yX6_standsStill, cX6_standsStill, 3, (some .boolean))
theorem ok_X6_standsStill : pOk m_X6_standsStill := ⟨⟨cd_X6_standsStill, ini_6⟩, by decide +kernel, ⟨by decide +kernel, by decide +kernel⟩, Nat.le_of_ble_eq_true rfl⟩
theorem np_X6_standsStill : (parseMethodDescriptor yX6_standsStill.desc).map (fun d => d.parameters.length) = some 2 := by decide +kernel
theorem im_X6_standsStill : Cond.instanceMethod yX6_standsStill ∈ pWW := pw5 (List.mem_of_getElem? (i := 107) rfl) rfl
theorem se_X6_standsStill : Cond.selects RX6 yX6_standsStill yX6_standsStill ∈ pWW := pws (List.mem_map.mpr ⟨_, lw_pin 61 rfl, rfl⟩) rfl
theorem nl6_131 : (RX6, 131, yX11_has, "LineKeeper") ∈ nst_M := List.mem_of_getElem? (i := 35) rfl
theorem dX6_standsStill_0 : decode cX6_standsStill 0 = .ok (.aload_n 1, 1) := by decide +kernel
theorem dX6_standsStill_1 : decode cX6_standsStill 1 = .ok (.iload_n 2, 1) := by decide +kernel
theorem dX6_standsStill_2 : decode cX6_standsStill 2 = .ok (.iconst 3, 1) := by decide +kernel
theorem dX6_standsStill_3 : decode cX6_standsStill 3 = .ok (.invokevirtual 34, 3) := by decide +kernel
theorem dX6_standsStill_6 : decode cX6_standsStill 6 = .ok (.iconst 2, 1) := by decide +kernel
theorem dX6_standsStill_7 : decode cX6_standsStill 7 = .ok (.if_icmp .ne 20, 3) := by decide +kernel
theorem dX6_standsStill_27 : decode cX6_standsStill 27 = .ok (.aload_n 1, 1) := by decide +kernel
theorem dX6_standsStill_28 : decode cX6_standsStill 28 = .ok (.iload_n 2, 1) := by decide +kernel
theorem dX6_standsStill_29 : decode cX6_standsStill 29 = .ok (.iconst 5, 1) := by decide +kernel
theorem dX6_standsStill_30 : decode cX6_standsStill 30 = .ok (.invokevirtual 34, 3) := by decide +kernel
theorem dX6_standsStill_33 : decode cX6_standsStill 33 = .ok (.iconst 2, 1) := by decide +kernel
theorem dX6_standsStill_34 : decode cX6_standsStill 34 = .ok (.if_icmp .ne 21, 3) := by decide +kernel
theorem dX6_standsStill_55 : decode cX6_standsStill 55 = .ok (.iconst 1, 1) := by decide +kernel
theorem dX6_standsStill_56 : decode cX6_standsStill 56 = .ok (.goto 4, 3) := by decide +kernel
theorem dX6_standsStill_60 : decode cX6_standsStill 60 = .ok (.ireturn, 1) := by decide +kernel
theorem dX6_standsStill_37 : decode cX6_standsStill 37 = .ok (.aload_n 0, 1) := by decide +kernel
theorem dX6_standsStill_38 : decode cX6_standsStill 38 = .ok (.getfield 18, 3) := by decide +kernel
theorem dX6_standsStill_41 : decode cX6_standsStill 41 = .ok (.iconst 0, 1) := by decide +kernel
theorem dX6_standsStill_42 : decode cX6_standsStill 42 = .ok (.aload_n 1, 1) := by decide +kernel
theorem dX6_standsStill_43 : decode cX6_standsStill 43 = .ok (.iload_n 2, 1) := by decide +kernel
theorem dX6_standsStill_44 : decode cX6_standsStill 44 = .ok (.bipush 6, 2) := by decide +kernel
theorem dX6_standsStill_46 : decode cX6_standsStill 46 = .ok (.invokevirtual 34, 3) := by decide +kernel
theorem dX6_standsStill_49 : decode cX6_standsStill 49 = .ok (.invokestatic 131, 3) := by decide +kernel
theorem dX6_standsStill_52 : decode cX6_standsStill 52 = .ok (.ifCond .ne 7, 3) := by decide +kernel
theorem dX6_standsStill_59 : decode cX6_standsStill 59 = .ok (.iconst 0, 1) := by decide +kernel
theorem dX6_standsStill_10 : decode cX6_standsStill 10 = .ok (.aload_n 0, 1) := by decide +kernel
theorem dX6_standsStill_11 : decode cX6_standsStill 11 = .ok (.getfield 18, 3) := by decide +kernel
theorem dX6_standsStill_14 : decode cX6_standsStill 14 = .ok (.iconst 0, 1) := by decide +kernel
theorem dX6_standsStill_15 : decode cX6_standsStill 15 = .ok (.aload_n 1, 1) := by decide +kernel
theorem dX6_standsStill_16 : decode cX6_standsStill 16 = .ok (.iload_n 2, 1) := by decide +kernel
theorem dX6_standsStill_17 : decode cX6_standsStill 17 = .ok (.iconst 4, 1) := by decide +kernel
theorem dX6_standsStill_18 : decode cX6_standsStill 18 = .ok (.invokevirtual 34, 3) := by decide +kernel
theorem dX6_standsStill_21 : decode cX6_standsStill 21 = .ok (.invokestatic 131, 3) := by decide +kernel
theorem dX6_standsStill_24 : decode cX6_standsStill 24 = .ok (.ifCond .ne 35, 3) := by decide +kernel
set_option maxRecDepth 20000 in
theorem k_X6_standsStill (d : Nat) {T : CT} {σ : MS} {a : Nat} {p1 : Nat} {p2 : Int} (ha : OB T a 6) (h_p1 : OB T p1 1) (t_p1 : (T p1).1 = 50) (h_p2 : -2147483648 ≤ p2 ∧ p2 ≤ 2147483647) (hw : WT T σ) : Tn (d + 3) m_X6_standsStill 0 T σ [(0, .ref a), (1, .ref p1), (2, .int (iI p2))] [] (fun ro T2 σ2 => ∃ v : Int, ro = some (.int (iI v)) ∧ T = T2 ∧ σ = σ2 ∧ (v = 0 ∨ v = 1)) := by
  refine tn_aload_n dX6_standsStill_0 rfl 1 rfl ?_
  refine tn_iload_n dX6_standsStill_1 rfl 2 rfl ?_
  refine tn_iconst dX6_standsStill_2 ?_
  refine tn_callV (M := m_X6_standsStill) (pc := 3) (ix := 34) (ci := 1) (M' := m_X1_get) (As := [.int (iI p2), .int (iI 3)]) (rest := []) dX6_standsStill_3 ok_X1_get im_X1_get se_X1_get ml6_34 np_X1_get rfl rfl h_p1 rfl (Nat.le_of_ble_eq_true rfl) (Nat.le_of_ble_eq_true rfl) rfl (k_X1_get (d + 1) (T := T) (σ := σ) (a := p1) (k := p2) (c := 3) h_p1 (by omega) (by decide) hw (by omega)) (fun r1 T3 σ2 gt4 hp => ?_)
  obtain ⟨v6, rfl, rfl, rfl, f5⟩ := hp
  clear gt4
  show Tn _ _ 6 T σ [(0, .ref a), (1, .ref p1), (2, .int (iI p2))] [.int (iI v6)] _
  refine tn_iconst dX6_standsStill_6 ?_
  refine tn_icmp_ne (tgt := 27) dX6_standsStill_7 (by decide) ⟨by omega, by omega⟩ ⟨by decide, by decide⟩ (fun h7 => ?_) (fun h7 => ?_)
  · refine tn_aload_n dX6_standsStill_27 rfl 1 rfl ?_
    refine tn_iload_n dX6_standsStill_28 rfl 2 rfl ?_
    refine tn_iconst dX6_standsStill_29 ?_
    refine tn_callV (M := m_X6_standsStill) (pc := 30) (ix := 34) (ci := 1) (M' := m_X1_get) (As := [.int (iI p2), .int (iI 5)]) (rest := []) dX6_standsStill_30 ok_X1_get im_X1_get se_X1_get ml6_34 np_X1_get rfl rfl h_p1 rfl (Nat.le_of_ble_eq_true rfl) (Nat.le_of_ble_eq_true rfl) rfl (k_X1_get (d + 1) (T := T) (σ := σ) (a := p1) (k := p2) (c := 5) h_p1 (by omega) (by decide) hw (by omega)) (fun r8 T10 σ9 gt11 hp => ?_)
    obtain ⟨v13, rfl, rfl, rfl, f12⟩ := hp
    clear gt11
    show Tn _ _ 33 T σ [(0, .ref a), (1, .ref p1), (2, .int (iI p2))] [.int (iI v13)] _
    refine tn_iconst dX6_standsStill_33 ?_
    refine tn_icmp_ne (tgt := 55) dX6_standsStill_34 (by decide) ⟨by omega, by omega⟩ ⟨by decide, by decide⟩ (fun h14 => ?_) (fun h14 => ?_)
    · refine tn_iconst dX6_standsStill_55 ?_
      refine tn_goto (tgt := 60) dX6_standsStill_56 (by decide) ?_
      exact tn_zret (v := 1) rfl (by decide) dX6_standsStill_60 ⟨_, rfl, rfl, rfl, by omega⟩
    · refine tn_aload_n dX6_standsStill_37 rfl 0 rfl ?_
      obtain ⟨x15, hx16, hk17, hl18⟩ : ∃ x : Nat, σ.2.1 54 a = (x : Int) ∧ AR T x 3 3 3 := wf_54 hw ha
      refine tn_getR (ci := 6) (i := 2) (n := 54) (x := x15) dX6_standsStill_38 rfl lay_6 (by decide) fl6_18 ha rfl rfl (hx16) ?_
      refine tn_iconst dX6_standsStill_41 ?_
      refine tn_aload_n dX6_standsStill_42 rfl 1 rfl ?_
      refine tn_iload_n dX6_standsStill_43 rfl 2 rfl ?_
      refine tn_bipush dX6_standsStill_44 (by decide) ?_
      refine tn_callV (M := m_X6_standsStill) (pc := 46) (ix := 34) (ci := 1) (M' := m_X1_get) (As := [.int (iI p2), .int (iI 6)]) (rest := [.int (iI 0), .ref x15]) dX6_standsStill_46 ok_X1_get im_X1_get se_X1_get ml6_34 np_X1_get rfl rfl h_p1 rfl (Nat.le_of_ble_eq_true rfl) (Nat.le_of_ble_eq_true rfl) rfl (k_X1_get (d + 1) (T := T) (σ := σ) (a := p1) (k := p2) (c := 6) h_p1 (by omega) (by decide) hw (by omega)) (fun r19 T21 σ20 gt22 hp => ?_)
      obtain ⟨v24, rfl, rfl, rfl, f23⟩ := hp
      clear gt22
      show Tn _ _ 49 T σ [(0, .ref a), (1, .ref p1), (2, .int (iI p2))] [.int (iI v24), .int (iI 0), .ref x15] _
      refine tn_callSN (M := m_X6_standsStill) (pc := 49) (ix := 131) (M' := m_X11_has) (As := [.ref x15, .int (iI 0), .int (iI v24)]) (rest := []) dX6_standsStill_49 ok_X11_has stt_X11_has nl6_131 np_X11_has rfl (Nat.le_of_ble_eq_true rfl) (Nat.le_of_ble_eq_true rfl) rfl (k_X11_has (d) (T := T) (σ := σ) (x := x15) (k := 0) (r := v24) hk17 (by omega) (by decide) (by omega) hw ) (fun r25 T27 σ26 gt28 hp => ?_)
      obtain ⟨v30, rfl, rfl, rfl, f29⟩ := hp
      clear gt28
      show Tn _ _ 52 T σ [(0, .ref a), (1, .ref p1), (2, .int (iI p2))] [.int (iI v30)] _
      refine tn_if_ne (tgt := 59) dX6_standsStill_52 (by decide) ⟨by omega, by omega⟩ (fun h31 => ?_) (fun h31 => ?_)
      · refine tn_iconst dX6_standsStill_59 ?_
        exact tn_zret (v := 0) rfl (by decide) dX6_standsStill_60 ⟨_, rfl, rfl, rfl, by omega⟩
      · refine tn_iconst dX6_standsStill_55 ?_
        refine tn_goto (tgt := 60) dX6_standsStill_56 (by decide) ?_
        exact tn_zret (v := 1) rfl (by decide) dX6_standsStill_60 ⟨_, rfl, rfl, rfl, by omega⟩
  · refine tn_aload_n dX6_standsStill_10 rfl 0 rfl ?_
    obtain ⟨x32, hx33, hk34, hl35⟩ : ∃ x : Nat, σ.2.1 54 a = (x : Int) ∧ AR T x 3 3 3 := wf_54 hw ha
    refine tn_getR (ci := 6) (i := 2) (n := 54) (x := x32) dX6_standsStill_11 rfl lay_6 (by decide) fl6_18 ha rfl rfl (hx33) ?_
    refine tn_iconst dX6_standsStill_14 ?_
    refine tn_aload_n dX6_standsStill_15 rfl 1 rfl ?_
    refine tn_iload_n dX6_standsStill_16 rfl 2 rfl ?_
    refine tn_iconst dX6_standsStill_17 ?_
    refine tn_callV (M := m_X6_standsStill) (pc := 18) (ix := 34) (ci := 1) (M' := m_X1_get) (As := [.int (iI p2), .int (iI 4)]) (rest := [.int (iI 0), .ref x32]) dX6_standsStill_18 ok_X1_get im_X1_get se_X1_get ml6_34 np_X1_get rfl rfl h_p1 rfl (Nat.le_of_ble_eq_true rfl) (Nat.le_of_ble_eq_true rfl) rfl (k_X1_get (d + 1) (T := T) (σ := σ) (a := p1) (k := p2) (c := 4) h_p1 (by omega) (by decide) hw (by omega)) (fun r36 T38 σ37 gt39 hp => ?_)
    obtain ⟨v41, rfl, rfl, rfl, f40⟩ := hp
    clear gt39
    show Tn _ _ 21 T σ [(0, .ref a), (1, .ref p1), (2, .int (iI p2))] [.int (iI v41), .int (iI 0), .ref x32] _
    refine tn_callSN (M := m_X6_standsStill) (pc := 21) (ix := 131) (M' := m_X11_has) (As := [.ref x32, .int (iI 0), .int (iI v41)]) (rest := []) dX6_standsStill_21 ok_X11_has stt_X11_has nl6_131 np_X11_has rfl (Nat.le_of_ble_eq_true rfl) (Nat.le_of_ble_eq_true rfl) rfl (k_X11_has (d) (T := T) (σ := σ) (x := x32) (k := 0) (r := v41) hk34 (by omega) (by decide) (by omega) hw ) (fun r42 T44 σ43 gt45 hp => ?_)
    obtain ⟨v47, rfl, rfl, rfl, f46⟩ := hp
    clear gt45
    show Tn _ _ 24 T σ [(0, .ref a), (1, .ref p1), (2, .int (iI p2))] [.int (iI v47)] _
    refine tn_if_ne (tgt := 59) dX6_standsStill_24 (by decide) ⟨by omega, by omega⟩ (fun h48 => ?_) (fun h48 => ?_)
    · refine tn_iconst dX6_standsStill_59 ?_
      exact tn_zret (v := 0) rfl (by decide) dX6_standsStill_60 ⟨_, rfl, rfl, rfl, by omega⟩
    · refine tn_aload_n dX6_standsStill_27 rfl 1 rfl ?_
      refine tn_iload_n dX6_standsStill_28 rfl 2 rfl ?_
      refine tn_iconst dX6_standsStill_29 ?_
      refine tn_callV (M := m_X6_standsStill) (pc := 30) (ix := 34) (ci := 1) (M' := m_X1_get) (As := [.int (iI p2), .int (iI 5)]) (rest := []) dX6_standsStill_30 ok_X1_get im_X1_get se_X1_get ml6_34 np_X1_get rfl rfl h_p1 rfl (Nat.le_of_ble_eq_true rfl) (Nat.le_of_ble_eq_true rfl) rfl (k_X1_get (d + 1) (T := T) (σ := σ) (a := p1) (k := p2) (c := 5) h_p1 (by omega) (by decide) hw (by omega)) (fun r49 T51 σ50 gt52 hp => ?_)
      obtain ⟨v54, rfl, rfl, rfl, f53⟩ := hp
      clear gt52
      show Tn _ _ 33 T σ [(0, .ref a), (1, .ref p1), (2, .int (iI p2))] [.int (iI v54)] _
      refine tn_iconst dX6_standsStill_33 ?_
      refine tn_icmp_ne (tgt := 55) dX6_standsStill_34 (by decide) ⟨by omega, by omega⟩ ⟨by decide, by decide⟩ (fun h55 => ?_) (fun h55 => ?_)
      · refine tn_iconst dX6_standsStill_55 ?_
        refine tn_goto (tgt := 60) dX6_standsStill_56 (by decide) ?_
        exact tn_zret (v := 1) rfl (by decide) dX6_standsStill_60 ⟨_, rfl, rfl, rfl, by omega⟩
      · refine tn_aload_n dX6_standsStill_37 rfl 0 rfl ?_
        refine tn_getR (ci := 6) (i := 2) (n := 54) (x := x32) dX6_standsStill_38 rfl lay_6 (by decide) fl6_18 ha rfl rfl (hx33) ?_
        refine tn_iconst dX6_standsStill_41 ?_
        refine tn_aload_n dX6_standsStill_42 rfl 1 rfl ?_
        refine tn_iload_n dX6_standsStill_43 rfl 2 rfl ?_
        refine tn_bipush dX6_standsStill_44 (by decide) ?_
        refine tn_callV (M := m_X6_standsStill) (pc := 46) (ix := 34) (ci := 1) (M' := m_X1_get) (As := [.int (iI p2), .int (iI 6)]) (rest := [.int (iI 0), .ref x32]) dX6_standsStill_46 ok_X1_get im_X1_get se_X1_get ml6_34 np_X1_get rfl rfl h_p1 rfl (Nat.le_of_ble_eq_true rfl) (Nat.le_of_ble_eq_true rfl) rfl (k_X1_get (d + 1) (T := T) (σ := σ) (a := p1) (k := p2) (c := 6) h_p1 (by omega) (by decide) hw (by omega)) (fun r56 T58 σ57 gt59 hp => ?_)
        obtain ⟨v61, rfl, rfl, rfl, f60⟩ := hp
        clear gt59
        show Tn _ _ 49 T σ [(0, .ref a), (1, .ref p1), (2, .int (iI p2))] [.int (iI v61), .int (iI 0), .ref x32] _
        refine tn_callSN (M := m_X6_standsStill) (pc := 49) (ix := 131) (M' := m_X11_has) (As := [.ref x32, .int (iI 0), .int (iI v61)]) (rest := []) dX6_standsStill_49 ok_X11_has stt_X11_has nl6_131 np_X11_has rfl (Nat.le_of_ble_eq_true rfl) (Nat.le_of_ble_eq_true rfl) rfl (k_X11_has (d) (T := T) (σ := σ) (x := x32) (k := 0) (r := v61) hk34 (by omega) (by decide) (by omega) hw ) (fun r62 T64 σ63 gt65 hp => ?_)
        obtain ⟨v67, rfl, rfl, rfl, f66⟩ := hp
        clear gt65
        show Tn _ _ 52 T σ [(0, .ref a), (1, .ref p1), (2, .int (iI p2))] [.int (iI v67)] _
        refine tn_if_ne (tgt := 59) dX6_standsStill_52 (by decide) ⟨by omega, by omega⟩ (fun h68 => ?_) (fun h68 => ?_)
        · refine tn_iconst dX6_standsStill_59 ?_
          exact tn_zret (v := 0) rfl (by decide) dX6_standsStill_60 ⟨_, rfl, rfl, rfl, by omega⟩
        · refine tn_iconst dX6_standsStill_55 ?_
          refine tn_goto (tgt := 60) dX6_standsStill_56 (by decide) ?_
          exact tn_zret (v := 1) rfl (by decide) dX6_standsStill_60 ⟨_, rfl, rfl, rfl, by omega⟩
end
section
theorem cd_X6_isOnlyWriter : Cond.code yX6_isOnlyWriter cX6_isOnlyWriter 5 (some .boolean) ∈ pWW := pw5 (List.mem_of_getElem? (i := 117) rfl) rfl
abbrev m_X6_isOnlyWriter : MT := (yX6_isOnlyWriter, cX6_isOnlyWriter, 5, (some .boolean))
theorem ok_X6_isOnlyWriter : pOk m_X6_isOnlyWriter := ⟨⟨cd_X6_isOnlyWriter, ini_6⟩, by decide +kernel, ⟨by decide +kernel, by decide +kernel⟩, Nat.le_of_ble_eq_true rfl⟩
theorem np_X6_isOnlyWriter : (parseMethodDescriptor yX6_isOnlyWriter.desc).map (fun d => d.parameters.length) = some 2 := by decide +kernel
theorem im_X6_isOnlyWriter : Cond.instanceMethod yX6_isOnlyWriter ∈ pWW := pw5 (List.mem_of_getElem? (i := 116) rfl) rfl
theorem se_X6_isOnlyWriter : Cond.selects RX6 yX6_isOnlyWriter yX6_isOnlyWriter ∈ pWW := pws (List.mem_map.mpr ⟨_, lw_pin 62 rfl, rfl⟩) rfl
theorem dX6_isOnlyWriter_0 : decode cX6_isOnlyWriter 0 = .ok (.aload_n 1, 1) := by decide +kernel
theorem dX6_isOnlyWriter_1 : decode cX6_isOnlyWriter 1 = .ok (.iload_n 2, 1) := by decide +kernel
theorem dX6_isOnlyWriter_2 : decode cX6_isOnlyWriter 2 = .ok (.invokevirtual 84, 3) := by decide +kernel
theorem dX6_isOnlyWriter_5 : decode cX6_isOnlyWriter 5 = .ok (.istore_n 3, 1) := by decide +kernel
theorem dX6_isOnlyWriter_6 : decode cX6_isOnlyWriter 6 = .ok (.iconst 0, 1) := by decide +kernel
theorem dX6_isOnlyWriter_7 : decode cX6_isOnlyWriter 7 = .ok (.istore 4, 2) := by decide +kernel
theorem dX6_isOnlyWriter_9 : decode cX6_isOnlyWriter 9 = .ok (.iload 4, 2) := by decide +kernel
theorem dX6_isOnlyWriter_11 : decode cX6_isOnlyWriter 11 = .ok (.aload_n 1, 1) := by decide +kernel
theorem dX6_isOnlyWriter_12 : decode cX6_isOnlyWriter 12 = .ok (.getfield 22, 3) := by decide +kernel
theorem dX6_isOnlyWriter_15 : decode cX6_isOnlyWriter 15 = .ok (.if_icmp .ge 27, 3) := by decide +kernel
theorem dX6_isOnlyWriter_18 : decode cX6_isOnlyWriter 18 = .ok (.iload 4, 2) := by decide +kernel
theorem dX6_isOnlyWriter_20 : decode cX6_isOnlyWriter 20 = .ok (.iload_n 2, 1) := by decide +kernel
theorem dX6_isOnlyWriter_21 : decode cX6_isOnlyWriter 21 = .ok (.if_icmp .eq 15, 3) := by decide +kernel
theorem dX6_isOnlyWriter_36 : decode cX6_isOnlyWriter 36 = .ok (.iinc 4 1, 3) := by decide +kernel
theorem dX6_isOnlyWriter_39 : decode cX6_isOnlyWriter 39 = .ok (.goto (-30), 3) := by decide +kernel
theorem dX6_isOnlyWriter_24 : decode cX6_isOnlyWriter 24 = .ok (.aload_n 1, 1) := by decide +kernel
theorem dX6_isOnlyWriter_25 : decode cX6_isOnlyWriter 25 = .ok (.iload 4, 2) := by decide +kernel
theorem dX6_isOnlyWriter_27 : decode cX6_isOnlyWriter 27 = .ok (.invokevirtual 84, 3) := by decide +kernel
theorem dX6_isOnlyWriter_30 : decode cX6_isOnlyWriter 30 = .ok (.iload_n 3, 1) := by decide +kernel
theorem dX6_isOnlyWriter_31 : decode cX6_isOnlyWriter 31 = .ok (.if_icmp .ne 5, 3) := by decide +kernel
set_option maxRecDepth 20000 in
theorem l_X6_isOnlyWriter_9 (d : Nat) {T : CT} {σ : MS} {rx1 : Nat} {c2 : Int} {c3 : Int} {post : Option Value → CT → MS → Prop} (h_rx1 : OB T rx1 1) (t_rx1 : (T rx1).1 = 50) (r_c2 : -2147483648 ≤ c2 ∧ c2 ≤ 2147483647) (r_c3 : -2147483648 ≤ c3 ∧ c3 ≤ 2147483647) (hw : WT T σ) (hx_34 : ∀ (i4 : Int) , (0 ≤ i4 ∧ i4 ≤ 2147483647) → Tn (d + 3) m_X6_isOnlyWriter 34 T σ [(1, .ref rx1), (2, .int (iI c2)), (3, .int (iI c3)), (4, .int (iI i4))] [] post) (hx_42 : ∀ (i4 : Int) , (0 ≤ i4 ∧ i4 ≤ 2147483647) → Tn (d + 3) m_X6_isOnlyWriter 42 T σ [(1, .ref rx1), (2, .int (iI c2)), (3, .int (iI c3)), (4, .int (iI i4))] [] post) : ∀ (n : Nat) (i4 : Int) , (0 ≤ i4 ∧ i4 ≤ 2147483647) → (2147483700 - i4).toNat = n → Tn (d + 3) m_X6_isOnlyWriter 9 T σ [(1, .ref rx1), (2, .int (iI c2)), (3, .int (iI c3)), (4, .int (iI i4))] [] post := by
  intro n
  induction n using Nat.strongRecOn with
  | _ n ih =>
    intro i4 r_i4 hm
    refine tn_iload dX6_isOnlyWriter_9 3 rfl ?_
    refine tn_aload_n dX6_isOnlyWriter_11 rfl 0 rfl ?_
    refine tn_getI (ci := 1) (i := 1) (n := 6) (t := σ.2.1 6 rx1) dX6_isOnlyWriter_12 rfl lay_1 (by decide) fl6_22 h_rx1 rfl rfl (rfl) ?_
    have g1 : ((0 : Int) ≤ σ.2.1 6 rx1 ∧ σ.2.1 6 rx1 ≤ 5000) ∧ ((T rx1).1 = 50 → σ.2.1 6 rx1 ≤ 200) := wf_6 hw h_rx1
    have g1x := g1.2
    replace g1 := g1.1
    have g1x := g1x t_rx1
    refine tn_icmp_ge (tgt := 42) dX6_isOnlyWriter_15 (by decide) ⟨by omega, by omega⟩ ⟨by omega, by omega⟩ (fun h2 => ?_) (fun h2 => ?_)
    · exact tn_sub [0, 1, 2, 3] rfl (hx_42 (i4) (by omega))
    · refine tn_iload dX6_isOnlyWriter_18 3 rfl ?_
      refine tn_iload_n dX6_isOnlyWriter_20 rfl 1 rfl ?_
      refine tn_icmp_eq (tgt := 36) dX6_isOnlyWriter_21 (by decide) ⟨by omega, by omega⟩ ⟨by omega, by omega⟩ (fun h3 => ?_) (fun h3 => ?_)
      · refine tn_iinc (q0 := 3) (L' := [(4, .int (iI (i4 + 1))), (1, .ref rx1), (2, .int (iI c2)), (3, .int (iI c3))]) dX6_isOnlyWriter_36 rfl (by decide) rfl ?_
        refine tn_goto (tgt := 9) dX6_isOnlyWriter_39 (by decide) ?_
        exact tn_sub [1, 2, 3, 0] rfl (ih _ (by omega) (i4 + 1) (by omega) rfl)
      · refine tn_aload_n dX6_isOnlyWriter_24 rfl 0 rfl ?_
        refine tn_iload dX6_isOnlyWriter_25 3 rfl ?_
        refine tn_callV (M := m_X6_isOnlyWriter) (pc := 27) (ix := 84) (ci := 1) (M' := m_X1_writtenBy) (As := [.int (iI i4)]) (rest := []) dX6_isOnlyWriter_27 ok_X1_writtenBy im_X1_writtenBy se_X1_writtenBy ml6_84 np_X1_writtenBy rfl rfl h_rx1 rfl (Nat.le_of_ble_eq_true rfl) (Nat.le_of_ble_eq_true rfl) rfl (k_X1_writtenBy (d) (T := T) (σ := σ) (a := rx1) (k := i4) h_rx1 (by omega) hw ) (fun r4 T6 σ5 gt7 hp => ?_)
        obtain ⟨v9, rfl, rfl, rfl, f8⟩ := hp
        clear gt7
        show Tn _ _ 30 T σ [(1, .ref rx1), (2, .int (iI c2)), (3, .int (iI c3)), (4, .int (iI i4))] [.int (iI v9)] _
        refine tn_iload_n dX6_isOnlyWriter_30 rfl 2 rfl ?_
        refine tn_icmp_ne (tgt := 36) dX6_isOnlyWriter_31 (by decide) ⟨by omega, by omega⟩ ⟨by omega, by omega⟩ (fun h10 => ?_) (fun h10 => ?_)
        · refine tn_iinc (q0 := 3) (L' := [(4, .int (iI (i4 + 1))), (1, .ref rx1), (2, .int (iI c2)), (3, .int (iI c3))]) dX6_isOnlyWriter_36 rfl (by decide) rfl ?_
          refine tn_goto (tgt := 9) dX6_isOnlyWriter_39 (by decide) ?_
          exact tn_sub [1, 2, 3, 0] rfl (ih _ (by omega) (i4 + 1) (by omega) rfl)
        · exact tn_sub [0, 1, 2, 3] rfl (hx_34 (i4) (by omega))
theorem dX6_isOnlyWriter_34 : decode cX6_isOnlyWriter 34 = .ok (.iconst 0, 1) := by decide +kernel
theorem dX6_isOnlyWriter_35 : decode cX6_isOnlyWriter 35 = .ok (.ireturn, 1) := by decide +kernel
theorem dX6_isOnlyWriter_42 : decode cX6_isOnlyWriter 42 = .ok (.iconst 1, 1) := by decide +kernel
theorem dX6_isOnlyWriter_43 : decode cX6_isOnlyWriter 43 = .ok (.ireturn, 1) := by decide +kernel
set_option maxRecDepth 20000 in
theorem k_X6_isOnlyWriter (d : Nat) {T : CT} {σ : MS} {a : Nat} {p1 : Nat} {p2 : Int} (ha : OB T a 6) (h_p1 : OB T p1 1) (t_p1 : (T p1).1 = 50) (h_p2 : -2147483648 ≤ p2 ∧ p2 ≤ 2147483647) (hw : WT T σ) : Tn (d + 3) m_X6_isOnlyWriter 0 T σ [(0, .ref a), (1, .ref p1), (2, .int (iI p2))] [] (fun ro T2 σ2 => ∃ v : Int, ro = some (.int (iI v)) ∧ T = T2 ∧ σ = σ2 ∧ (v = 0 ∨ v = 1)) := by
  refine tn_aload_n dX6_isOnlyWriter_0 rfl 1 rfl ?_
  refine tn_iload_n dX6_isOnlyWriter_1 rfl 2 rfl ?_
  refine tn_callV (M := m_X6_isOnlyWriter) (pc := 2) (ix := 84) (ci := 1) (M' := m_X1_writtenBy) (As := [.int (iI p2)]) (rest := []) dX6_isOnlyWriter_2 ok_X1_writtenBy im_X1_writtenBy se_X1_writtenBy ml6_84 np_X1_writtenBy rfl rfl h_p1 rfl (Nat.le_of_ble_eq_true rfl) (Nat.le_of_ble_eq_true rfl) rfl (k_X1_writtenBy (d) (T := T) (σ := σ) (a := p1) (k := p2) h_p1 (by omega) hw ) (fun r1 T3 σ2 gt4 hp => ?_)
  obtain ⟨v6, rfl, rfl, rfl, f5⟩ := hp
  clear gt4
  show Tn _ _ 5 T σ [(0, .ref a), (1, .ref p1), (2, .int (iI p2))] [.int (iI v6)] _
  refine tn_istore_n (L' := [(3, .int (iI v6)), (0, .ref a), (1, .ref p1), (2, .int (iI p2))]) dX6_isOnlyWriter_5 rfl (by decide) rfl ?_
  refine tn_iconst dX6_isOnlyWriter_6 ?_
  refine tn_istore (L' := [(4, .int (iI 0)), (3, .int (iI v6)), (0, .ref a), (1, .ref p1), (2, .int (iI p2))]) dX6_isOnlyWriter_7 (by decide) rfl ?_
  refine tn_sub [3, 4, 1, 0] rfl (l_X6_isOnlyWriter_9 (d) (T := T) (σ := σ) (rx1 := p1) (c2 := p2) (c3 := v6) h_p1 t_p1 (by omega) (by omega) hw (fun i47 r13 => ?_) (fun i414 r20 => ?_) _ (0) (by omega) rfl)
  · show Tn _ _ 34 T σ [(1, .ref p1), (2, .int (iI p2)), (3, .int (iI v6)), (4, .int (iI i47))] [] _
    refine tn_iconst dX6_isOnlyWriter_34 ?_
    exact tn_zret (v := 0) rfl (by decide) dX6_isOnlyWriter_35 ⟨_, rfl, rfl, rfl, by omega⟩
  · show Tn _ _ 42 T σ [(1, .ref p1), (2, .int (iI p2)), (3, .int (iI v6)), (4, .int (iI i414))] [] _
    refine tn_iconst dX6_isOnlyWriter_42 ?_
    exact tn_zret (v := 1) rfl (by decide) dX6_isOnlyWriter_43 ⟨_, rfl, rfl, rfl, by omega⟩
end
section
theorem cd_X6_firstMovable : Cond.code yX6_firstMovable cX6_firstMovable 5 (some .int) ∈ pWW := pw5 (List.mem_of_getElem? (i := 97) rfl) rfl
abbrev m_X6_firstMovable : MT := (yX6_firstMovable, cX6_firstMovable, 5, (some .int))
theorem ok_X6_firstMovable : pOk m_X6_firstMovable := ⟨⟨cd_X6_firstMovable, ini_6⟩, by decide +kernel, ⟨by decide +kernel, by decide +kernel⟩, Nat.le_of_ble_eq_true rfl⟩
theorem np_X6_firstMovable : (parseMethodDescriptor yX6_firstMovable.desc).map (fun d => d.parameters.length) = some 3 := by decide +kernel
theorem im_X6_firstMovable : Cond.instanceMethod yX6_firstMovable ∈ pWW := pw5 (List.mem_of_getElem? (i := 96) rfl) rfl
theorem se_X6_firstMovable : Cond.selects RX6 yX6_firstMovable yX6_firstMovable ∈ pWW := pws (List.mem_map.mpr ⟨_, lw_pin 59 rfl, rfl⟩) rfl
theorem ml6_107 : Cond.methodLink RX6 107 yX6_collectWritten ∈ pWW := pw5 (List.mem_of_getElem? (i := 98) rfl) rfl
theorem nl6_111 : (RX6, 111, yX11_isPure, "LineKeeper") ∈ nst_M := List.mem_of_getElem? (i := 34) rfl
theorem ml6_114 : Cond.methodLink RX6 114 yX6_standsStill ∈ pWW := pw5 (List.mem_of_getElem? (i := 105) rfl) rfl
theorem ml6_117 : Cond.methodLink RX6 117 yX1_isHome ∈ pWW := pw5 (List.mem_of_getElem? (i := 110) rfl) rfl
theorem ml6_120 : Cond.methodLink RX6 120 yX6_isOnlyWriter ∈ pWW := pw5 (List.mem_of_getElem? (i := 114) rfl) rfl
theorem dX6_firstMovable_0 : decode cX6_firstMovable 0 = .ok (.aload_n 0, 1) := by decide +kernel
theorem dX6_firstMovable_1 : decode cX6_firstMovable 1 = .ok (.aload_n 1, 1) := by decide +kernel
theorem dX6_firstMovable_2 : decode cX6_firstMovable 2 = .ok (.iload_n 2, 1) := by decide +kernel
theorem dX6_firstMovable_3 : decode cX6_firstMovable 3 = .ok (.iload_n 3, 1) := by decide +kernel
theorem dX6_firstMovable_4 : decode cX6_firstMovable 4 = .ok (.invokevirtual 107, 3) := by decide +kernel
theorem dX6_firstMovable_7 : decode cX6_firstMovable 7 = .ok (.iload_n 2, 1) := by decide +kernel
theorem dX6_firstMovable_8 : decode cX6_firstMovable 8 = .ok (.istore 4, 2) := by decide +kernel
theorem dX6_firstMovable_10 : decode cX6_firstMovable 10 = .ok (.iload 4, 2) := by decide +kernel
theorem dX6_firstMovable_12 : decode cX6_firstMovable 12 = .ok (.iload_n 3, 1) := by decide +kernel
theorem dX6_firstMovable_13 : decode cX6_firstMovable 13 = .ok (.if_icmp .gt 59, 3) := by decide +kernel
theorem dX6_firstMovable_16 : decode cX6_firstMovable 16 = .ok (.aload_n 1, 1) := by decide +kernel
theorem dX6_firstMovable_17 : decode cX6_firstMovable 17 = .ok (.iload 4, 2) := by decide +kernel
theorem dX6_firstMovable_19 : decode cX6_firstMovable 19 = .ok (.iconst 0, 1) := by decide +kernel
theorem dX6_firstMovable_20 : decode cX6_firstMovable 20 = .ok (.invokevirtual 34, 3) := by decide +kernel
theorem dX6_firstMovable_23 : decode cX6_firstMovable 23 = .ok (.invokestatic 111, 3) := by decide +kernel
theorem dX6_firstMovable_26 : decode cX6_firstMovable 26 = .ok (.ifCond .eq 40, 3) := by decide +kernel
theorem dX6_firstMovable_66 : decode cX6_firstMovable 66 = .ok (.iinc 4 1, 3) := by decide +kernel
theorem dX6_firstMovable_69 : decode cX6_firstMovable 69 = .ok (.goto (-59), 3) := by decide +kernel
theorem dX6_firstMovable_29 : decode cX6_firstMovable 29 = .ok (.aload_n 0, 1) := by decide +kernel
theorem dX6_firstMovable_30 : decode cX6_firstMovable 30 = .ok (.aload_n 1, 1) := by decide +kernel
theorem dX6_firstMovable_31 : decode cX6_firstMovable 31 = .ok (.iload 4, 2) := by decide +kernel
theorem dX6_firstMovable_33 : decode cX6_firstMovable 33 = .ok (.invokevirtual 114, 3) := by decide +kernel
theorem dX6_firstMovable_36 : decode cX6_firstMovable 36 = .ok (.ifCond .eq 30, 3) := by decide +kernel
theorem dX6_firstMovable_39 : decode cX6_firstMovable 39 = .ok (.aload_n 1, 1) := by decide +kernel
theorem dX6_firstMovable_40 : decode cX6_firstMovable 40 = .ok (.aload_n 1, 1) := by decide +kernel
theorem dX6_firstMovable_41 : decode cX6_firstMovable 41 = .ok (.iload 4, 2) := by decide +kernel
theorem dX6_firstMovable_43 : decode cX6_firstMovable 43 = .ok (.iconst 1, 1) := by decide +kernel
theorem dX6_firstMovable_44 : decode cX6_firstMovable 44 = .ok (.invokevirtual 34, 3) := by decide +kernel
theorem dX6_firstMovable_47 : decode cX6_firstMovable 47 = .ok (.invokevirtual 117, 3) := by decide +kernel
theorem dX6_firstMovable_50 : decode cX6_firstMovable 50 = .ok (.ifCond .ne 16, 3) := by decide +kernel
theorem dX6_firstMovable_53 : decode cX6_firstMovable 53 = .ok (.aload_n 0, 1) := by decide +kernel
theorem dX6_firstMovable_54 : decode cX6_firstMovable 54 = .ok (.aload_n 1, 1) := by decide +kernel
theorem dX6_firstMovable_55 : decode cX6_firstMovable 55 = .ok (.iload 4, 2) := by decide +kernel
theorem dX6_firstMovable_57 : decode cX6_firstMovable 57 = .ok (.invokevirtual 120, 3) := by decide +kernel
theorem dX6_firstMovable_60 : decode cX6_firstMovable 60 = .ok (.ifCond .eq 6, 3) := by decide +kernel
set_option maxRecDepth 20000 in
theorem l_X6_firstMovable_10 (d : Nat) {T : CT} {σ : MS} {a : Nat} {rx1 : Nat} {c3 : Int} {post : Option Value → CT → MS → Prop} (h_a : OB T a 6) (h_rx1 : OB T rx1 1) (t_rx1 : (T rx1).1 = 50) (r_c3 : -2147483648 ≤ c3 ∧ c3 ≤ 100000) (hw : WT T σ) (hx_63 : ∀ (i4 : Int) , (-2147483648 ≤ i4 ∧ i4 ≤ 2147483647) → Tn (d + 5) m_X6_firstMovable 63 T σ [(0, .ref a), (1, .ref rx1), (3, .int (iI c3)), (4, .int (iI i4))] [] post) (hx_72 : ∀ (i4 : Int) , (-2147483648 ≤ i4 ∧ i4 ≤ 2147483647) → Tn (d + 5) m_X6_firstMovable 72 T σ [(0, .ref a), (1, .ref rx1), (3, .int (iI c3)), (4, .int (iI i4))] [] post) : ∀ (n : Nat) (i4 : Int) , (-2147483648 ≤ i4 ∧ i4 ≤ 2147483647) → (2147483700 - i4).toNat = n → Tn (d + 5) m_X6_firstMovable 10 T σ [(0, .ref a), (1, .ref rx1), (3, .int (iI c3)), (4, .int (iI i4))] [] post := by
  intro n
  induction n using Nat.strongRecOn with
  | _ n ih =>
    intro i4 r_i4 hm
    refine tn_iload dX6_firstMovable_10 3 rfl ?_
    refine tn_iload_n dX6_firstMovable_12 rfl 2 rfl ?_
    refine tn_icmp_gt (tgt := 72) dX6_firstMovable_13 (by decide) ⟨by omega, by omega⟩ ⟨by omega, by omega⟩ (fun h1 => ?_) (fun h1 => ?_)
    · exact tn_sub [0, 1, 2, 3] rfl (hx_72 (i4) (by omega))
    · refine tn_aload_n dX6_firstMovable_16 rfl 1 rfl ?_
      refine tn_iload dX6_firstMovable_17 3 rfl ?_
      refine tn_iconst dX6_firstMovable_19 ?_
      refine tn_callV (M := m_X6_firstMovable) (pc := 20) (ix := 34) (ci := 1) (M' := m_X1_get) (As := [.int (iI i4), .int (iI 0)]) (rest := []) dX6_firstMovable_20 ok_X1_get im_X1_get se_X1_get ml6_34 np_X1_get rfl rfl h_rx1 rfl (Nat.le_of_ble_eq_true rfl) (Nat.le_of_ble_eq_true rfl) rfl (k_X1_get (d + 3) (T := T) (σ := σ) (a := rx1) (k := i4) (c := 0) h_rx1 (by omega) (by decide) hw (by omega)) (fun r2 T4 σ3 gt5 hp => ?_)
      obtain ⟨v7, rfl, rfl, rfl, f6⟩ := hp
      clear gt5
      show Tn _ _ 23 T σ [(0, .ref a), (1, .ref rx1), (3, .int (iI c3)), (4, .int (iI i4))] [.int (iI v7)] _
      refine tn_callSN (M := m_X6_firstMovable) (pc := 23) (ix := 111) (M' := m_X11_isPure) (As := [.int (iI v7)]) (rest := []) dX6_firstMovable_23 ok_X11_isPure stt_X11_isPure nl6_111 np_X11_isPure rfl (Nat.le_of_ble_eq_true rfl) (Nat.le_of_ble_eq_true rfl) rfl (k_X11_isPure (d + 3) (T := T) (σ := σ) (k := v7) (by omega) hw ) (fun r8 T10 σ9 gt11 hp => ?_)
      obtain ⟨v13, rfl, rfl, rfl, f12⟩ := hp
      clear gt11
      show Tn _ _ 26 T σ [(0, .ref a), (1, .ref rx1), (3, .int (iI c3)), (4, .int (iI i4))] [.int (iI v13)] _
      refine tn_if_eq (tgt := 66) dX6_firstMovable_26 (by decide) ⟨by omega, by omega⟩ (fun h14 => ?_) (fun h14 => ?_)
      · refine tn_iinc (q0 := 3) (L' := [(4, .int (iI (i4 + 1))), (0, .ref a), (1, .ref rx1), (3, .int (iI c3))]) dX6_firstMovable_66 rfl (by decide) rfl ?_
        refine tn_goto (tgt := 10) dX6_firstMovable_69 (by decide) ?_
        exact tn_sub [1, 2, 3, 0] rfl (ih _ (by omega) (i4 + 1) (by omega) rfl)
      · refine tn_aload_n dX6_firstMovable_29 rfl 0 rfl ?_
        refine tn_aload_n dX6_firstMovable_30 rfl 1 rfl ?_
        refine tn_iload dX6_firstMovable_31 3 rfl ?_
        refine tn_callV (M := m_X6_firstMovable) (pc := 33) (ix := 114) (ci := 6) (M' := m_X6_standsStill) (As := [.ref rx1, .int (iI i4)]) (rest := []) dX6_firstMovable_33 ok_X6_standsStill im_X6_standsStill se_X6_standsStill ml6_114 np_X6_standsStill rfl rfl h_a rfl (Nat.le_of_ble_eq_true rfl) (Nat.le_of_ble_eq_true rfl) rfl (k_X6_standsStill (d + 1) (T := T) (σ := σ) (a := a) (p1 := rx1) (p2 := i4) h_a h_rx1 t_rx1 (by omega) hw ) (fun r15 T17 σ16 gt18 hp => ?_)
        obtain ⟨v20, rfl, rfl, rfl, f19⟩ := hp
        clear gt18
        show Tn _ _ 36 T σ [(0, .ref a), (1, .ref rx1), (3, .int (iI c3)), (4, .int (iI i4))] [.int (iI v20)] _
        refine tn_if_eq (tgt := 66) dX6_firstMovable_36 (by decide) ⟨by omega, by omega⟩ (fun h21 => ?_) (fun h21 => ?_)
        · refine tn_iinc (q0 := 3) (L' := [(4, .int (iI (i4 + 1))), (0, .ref a), (1, .ref rx1), (3, .int (iI c3))]) dX6_firstMovable_66 rfl (by decide) rfl ?_
          refine tn_goto (tgt := 10) dX6_firstMovable_69 (by decide) ?_
          exact tn_sub [1, 2, 3, 0] rfl (ih _ (by omega) (i4 + 1) (by omega) rfl)
        · refine tn_aload_n dX6_firstMovable_39 rfl 1 rfl ?_
          refine tn_aload_n dX6_firstMovable_40 rfl 1 rfl ?_
          refine tn_iload dX6_firstMovable_41 3 rfl ?_
          refine tn_iconst dX6_firstMovable_43 ?_
          refine tn_callV (M := m_X6_firstMovable) (pc := 44) (ix := 34) (ci := 1) (M' := m_X1_get) (As := [.int (iI i4), .int (iI 1)]) (rest := [.ref rx1]) dX6_firstMovable_44 ok_X1_get im_X1_get se_X1_get ml6_34 np_X1_get rfl rfl h_rx1 rfl (Nat.le_of_ble_eq_true rfl) (Nat.le_of_ble_eq_true rfl) rfl (k_X1_get (d + 3) (T := T) (σ := σ) (a := rx1) (k := i4) (c := 1) h_rx1 (by omega) (by decide) hw (by omega)) (fun r22 T24 σ23 gt25 hp => ?_)
          obtain ⟨v27, rfl, rfl, rfl, f26⟩ := hp
          clear gt25
          show Tn _ _ 47 T σ [(0, .ref a), (1, .ref rx1), (3, .int (iI c3)), (4, .int (iI i4))] [.int (iI v27), .ref rx1] _
          refine tn_callV (M := m_X6_firstMovable) (pc := 47) (ix := 117) (ci := 1) (M' := m_X1_isHome) (As := [.int (iI v27)]) (rest := []) dX6_firstMovable_47 ok_X1_isHome im_X1_isHome se_X1_isHome ml6_117 np_X1_isHome rfl rfl h_rx1 rfl (Nat.le_of_ble_eq_true rfl) (Nat.le_of_ble_eq_true rfl) rfl (k_X1_isHome (d + 1) (T := T) (σ := σ) (a := rx1) (r := v27) h_rx1 (by omega) hw ) (fun r28 T30 σ29 gt31 hp => ?_)
          obtain ⟨v33, rfl, rfl, rfl, f32⟩ := hp
          clear gt31
          show Tn _ _ 50 T σ [(0, .ref a), (1, .ref rx1), (3, .int (iI c3)), (4, .int (iI i4))] [.int (iI v33)] _
          refine tn_if_ne (tgt := 66) dX6_firstMovable_50 (by decide) ⟨by omega, by omega⟩ (fun h34 => ?_) (fun h34 => ?_)
          · refine tn_iinc (q0 := 3) (L' := [(4, .int (iI (i4 + 1))), (0, .ref a), (1, .ref rx1), (3, .int (iI c3))]) dX6_firstMovable_66 rfl (by decide) rfl ?_
            refine tn_goto (tgt := 10) dX6_firstMovable_69 (by decide) ?_
            exact tn_sub [1, 2, 3, 0] rfl (ih _ (by omega) (i4 + 1) (by omega) rfl)
          · refine tn_aload_n dX6_firstMovable_53 rfl 0 rfl ?_
            refine tn_aload_n dX6_firstMovable_54 rfl 1 rfl ?_
            refine tn_iload dX6_firstMovable_55 3 rfl ?_
            refine tn_callV (M := m_X6_firstMovable) (pc := 57) (ix := 120) (ci := 6) (M' := m_X6_isOnlyWriter) (As := [.ref rx1, .int (iI i4)]) (rest := []) dX6_firstMovable_57 ok_X6_isOnlyWriter im_X6_isOnlyWriter se_X6_isOnlyWriter ml6_120 np_X6_isOnlyWriter rfl rfl h_a rfl (Nat.le_of_ble_eq_true rfl) (Nat.le_of_ble_eq_true rfl) rfl (k_X6_isOnlyWriter (d + 1) (T := T) (σ := σ) (a := a) (p1 := rx1) (p2 := i4) h_a h_rx1 t_rx1 (by omega) hw ) (fun r35 T37 σ36 gt38 hp => ?_)
            obtain ⟨v40, rfl, rfl, rfl, f39⟩ := hp
            clear gt38
            show Tn _ _ 60 T σ [(0, .ref a), (1, .ref rx1), (3, .int (iI c3)), (4, .int (iI i4))] [.int (iI v40)] _
            refine tn_if_eq (tgt := 66) dX6_firstMovable_60 (by decide) ⟨by omega, by omega⟩ (fun h41 => ?_) (fun h41 => ?_)
            · refine tn_iinc (q0 := 3) (L' := [(4, .int (iI (i4 + 1))), (0, .ref a), (1, .ref rx1), (3, .int (iI c3))]) dX6_firstMovable_66 rfl (by decide) rfl ?_
              refine tn_goto (tgt := 10) dX6_firstMovable_69 (by decide) ?_
              exact tn_sub [1, 2, 3, 0] rfl (ih _ (by omega) (i4 + 1) (by omega) rfl)
            · exact tn_sub [0, 1, 2, 3] rfl (hx_63 (i4) (by omega))
theorem dX6_firstMovable_63 : decode cX6_firstMovable 63 = .ok (.iload 4, 2) := by decide +kernel
theorem dX6_firstMovable_65 : decode cX6_firstMovable 65 = .ok (.ireturn, 1) := by decide +kernel
theorem dX6_firstMovable_72 : decode cX6_firstMovable 72 = .ok (.iconst (-1), 1) := by decide +kernel
theorem dX6_firstMovable_73 : decode cX6_firstMovable 73 = .ok (.ireturn, 1) := by decide +kernel
set_option maxRecDepth 20000 in
theorem k_X6_firstMovable (d : Nat) {T : CT} {σ : MS} {a : Nat} {p1 : Nat} {p2 : Int} {p3 : Int} (ha : OB T a 6) (h_p1 : OB T p1 1) (t_p1 : (T p1).1 = 50) (h_p2 : -2147483648 ≤ p2 ∧ p2 ≤ 2147483647) (h_p3 : -2147483648 ≤ p3 ∧ p3 ≤ 2147483647) (hw : WT T σ) (ht : p3 ≤ 100000) : Tn (d + 5) m_X6_firstMovable 0 T σ [(0, .ref a), (1, .ref p1), (2, .int (iI p2)), (3, .int (iI p3))] [] (fun ro T2 σ2 => ∃ v : Int, ro = some (.int (iI v)) ∧ T = T2 ∧ WT T2 σ2 ∧ FrC T [] σ σ2 ∧ (-2147483648 ≤ v ∧ v ≤ 2147483647)) := by
  refine tn_aload_n dX6_firstMovable_0 rfl 0 rfl ?_
  refine tn_aload_n dX6_firstMovable_1 rfl 1 rfl ?_
  refine tn_iload_n dX6_firstMovable_2 rfl 2 rfl ?_
  refine tn_iload_n dX6_firstMovable_3 rfl 3 rfl ?_
  refine tn_callV (M := m_X6_firstMovable) (pc := 4) (ix := 107) (ci := 6) (M' := m_X6_collectWritten) (As := [.ref p1, .int (iI p2), .int (iI p3)]) (rest := []) dX6_firstMovable_4 ok_X6_collectWritten im_X6_collectWritten se_X6_collectWritten ml6_107 np_X6_collectWritten rfl rfl ha rfl (Nat.le_of_ble_eq_true rfl) (Nat.le_of_ble_eq_true rfl) rfl (k_X6_collectWritten (d) (T := T) (σ := σ) (a := a) (p1 := p1) (p2 := p2) (p3 := p3) ha h_p1 t_p1 (by omega) (by omega) hw (by omega)) (fun r1 T3 σ2 gt4 hp => ?_)
  obtain ⟨rfl, rfl, w6, F7⟩ := hp
  clear gt4
  show Tn _ _ 7 T σ2 [(0, .ref a), (1, .ref p1), (2, .int (iI p2)), (3, .int (iI p3))] [] _
  refine tn_iload_n dX6_firstMovable_7 rfl 2 rfl ?_
  refine tn_istore (L' := [(4, .int (iI p2)), (0, .ref a), (1, .ref p1), (2, .int (iI p2)), (3, .int (iI p3))]) dX6_firstMovable_8 (by decide) rfl ?_
  refine tn_sub [1, 2, 4, 0] rfl (l_X6_firstMovable_10 (d) (T := T) (σ := σ2) (a := a) (rx1 := p1) (c3 := p3) ha h_p1 t_p1 (by omega) w6 (fun i48 r14 => ?_) (fun i415 r21 => ?_) _ (p2) (by omega) rfl)
  · show Tn _ _ 63 T σ2 [(0, .ref a), (1, .ref p1), (3, .int (iI p3)), (4, .int (iI i48))] [] _
    refine tn_iload dX6_firstMovable_63 3 rfl ?_
    exact tn_iret rfl dX6_firstMovable_65 ⟨_, rfl, rfl, w6, (FrC.rfl.trans (FrC.sub F7 (by decide))), by omega⟩
  · show Tn _ _ 72 T σ2 [(0, .ref a), (1, .ref p1), (3, .int (iI p3)), (4, .int (iI i415))] [] _
    refine tn_iconst dX6_firstMovable_72 ?_
    exact tn_iret rfl dX6_firstMovable_73 ⟨_, rfl, rfl, w6, (FrC.rfl.trans (FrC.sub F7 (by decide))), by omega⟩
end
section
theorem cd_X6_emptyLoop : Cond.code yX6_emptyLoop cX6_emptyLoop 7 (some .int) ∈ pWW := pw5 (List.mem_of_getElem? (i := 89) rfl) rfl
abbrev m_X6_emptyLoop : MT := (yX6_emptyLoop, cX6_emptyLoop, 7, (some .int))
theorem ok_X6_emptyLoop : pOk m_X6_emptyLoop := ⟨⟨cd_X6_emptyLoop, ini_6⟩, by decide +kernel, ⟨by decide +kernel, by decide +kernel⟩, Nat.le_of_ble_eq_true rfl⟩
theorem np_X6_emptyLoop : (parseMethodDescriptor yX6_emptyLoop.desc).map (fun d => d.parameters.length) = some 2 := by decide +kernel
theorem im_X6_emptyLoop : Cond.instanceMethod yX6_emptyLoop ∈ pWW := pw5 (List.mem_of_getElem? (i := 88) rfl) rfl
theorem se_X6_emptyLoop : Cond.selects RX6 yX6_emptyLoop yX6_emptyLoop ∈ pWW := pws (List.mem_map.mpr ⟨_, lw_pin 57 rfl, rfl⟩) rfl
theorem ml6_96 : Cond.methodLink RX6 96 yX6_lastJumpTo ∈ pWW := pw5 (List.mem_of_getElem? (i := 90) rfl) rfl
theorem ml6_99 : Cond.methodLink RX6 99 yX6_firstMovable ∈ pWW := pw5 (List.mem_of_getElem? (i := 94) rfl) rfl
theorem ml6_103 : Cond.methodLink RX6 103 yX1_liftRow ∈ pWW := pw5 (List.mem_of_getElem? (i := 118) rfl) rfl
theorem dX6_emptyLoop_0 : decode cX6_emptyLoop 0 = .ok (.aload_n 0, 1) := by decide +kernel
theorem dX6_emptyLoop_1 : decode cX6_emptyLoop 1 = .ok (.aload_n 1, 1) := by decide +kernel
theorem dX6_emptyLoop_2 : decode cX6_emptyLoop 2 = .ok (.iload_n 2, 1) := by decide +kernel
theorem dX6_emptyLoop_3 : decode cX6_emptyLoop 3 = .ok (.invokevirtual 96, 3) := by decide +kernel
theorem dX6_emptyLoop_6 : decode cX6_emptyLoop 6 = .ok (.istore_n 3, 1) := by decide +kernel
theorem dX6_emptyLoop_7 : decode cX6_emptyLoop 7 = .ok (.iload_n 2, 1) := by decide +kernel
theorem dX6_emptyLoop_8 : decode cX6_emptyLoop 8 = .ok (.istore 4, 2) := by decide +kernel
theorem dX6_emptyLoop_10 : decode cX6_emptyLoop 10 = .ok (.iconst 0, 1) := by decide +kernel
theorem dX6_emptyLoop_11 : decode cX6_emptyLoop 11 = .ok (.istore 5, 2) := by decide +kernel
theorem dX6_emptyLoop_13 : decode cX6_emptyLoop 13 = .ok (.iload 5, 2) := by decide +kernel
theorem dX6_emptyLoop_15 : decode cX6_emptyLoop 15 = .ok (.sipush 200, 3) := by decide +kernel
theorem dX6_emptyLoop_18 : decode cX6_emptyLoop 18 = .ok (.if_icmp .ge 39, 3) := by decide +kernel
theorem dX6_emptyLoop_21 : decode cX6_emptyLoop 21 = .ok (.aload_n 0, 1) := by decide +kernel
theorem dX6_emptyLoop_22 : decode cX6_emptyLoop 22 = .ok (.aload_n 1, 1) := by decide +kernel
theorem dX6_emptyLoop_23 : decode cX6_emptyLoop 23 = .ok (.iload 4, 2) := by decide +kernel
theorem dX6_emptyLoop_25 : decode cX6_emptyLoop 25 = .ok (.iload_n 3, 1) := by decide +kernel
theorem dX6_emptyLoop_26 : decode cX6_emptyLoop 26 = .ok (.invokevirtual 99, 3) := by decide +kernel
theorem dX6_emptyLoop_29 : decode cX6_emptyLoop 29 = .ok (.istore 6, 2) := by decide +kernel
theorem dX6_emptyLoop_31 : decode cX6_emptyLoop 31 = .ok (.iload 6, 2) := by decide +kernel
theorem dX6_emptyLoop_33 : decode cX6_emptyLoop 33 = .ok (.iconst (-1), 1) := by decide +kernel
theorem dX6_emptyLoop_34 : decode cX6_emptyLoop 34 = .ok (.if_icmp .ne 6, 3) := by decide +kernel
theorem dX6_emptyLoop_40 : decode cX6_emptyLoop 40 = .ok (.aload_n 1, 1) := by decide +kernel
theorem dX6_emptyLoop_41 : decode cX6_emptyLoop 41 = .ok (.iload 6, 2) := by decide +kernel
theorem dX6_emptyLoop_43 : decode cX6_emptyLoop 43 = .ok (.iload 4, 2) := by decide +kernel
theorem dX6_emptyLoop_45 : decode cX6_emptyLoop 45 = .ok (.invokevirtual 103, 3) := by decide +kernel
theorem dX6_emptyLoop_48 : decode cX6_emptyLoop 48 = .ok (.iinc 4 1, 3) := by decide +kernel
theorem dX6_emptyLoop_51 : decode cX6_emptyLoop 51 = .ok (.iinc 5 1, 3) := by decide +kernel
theorem dX6_emptyLoop_54 : decode cX6_emptyLoop 54 = .ok (.goto (-41), 3) := by decide +kernel
set_option maxRecDepth 20000 in
theorem l_X6_emptyLoop_13 (d : Nat) {T : CT} {σ0 : MS} {a : Nat} {rx1 : Nat} {c2 : Int} {c3 : Int} {post : Option Value → CT → MS → Prop} (h_a : OB T a 6) (h_rx1 : OB T rx1 1) (t_rx1 : (T rx1).1 = 50) (r_c2 : -2147483648 ≤ c2 ∧ c2 ≤ 2147483647) (r_c3 : -1 ≤ c3 ∧ c3 ≤ 5000) (hw0 : WT T σ0) (hx_37 : ∀ (i4 : Int) (i5 : Int) (σ : MS) , (WT T σ) → (FrC T [] σ0 σ) → (-2147483648 ≤ i4 ∧ i4 ≤ 2147483647) → (0 ≤ i5 ∧ i5 ≤ 2147483647) → Tn (d + 6) m_X6_emptyLoop 37 T σ [(0, .ref a), (1, .ref rx1), (2, .int (iI c2)), (3, .int (iI c3)), (4, .int (iI i4)), (5, .int (iI i5))] [] post) (hx_57 : ∀ (i4 : Int) (i5 : Int) (σ : MS) , (WT T σ) → (FrC T [] σ0 σ) → (-2147483648 ≤ i4 ∧ i4 ≤ 2147483647) → (0 ≤ i5 ∧ i5 ≤ 2147483647) → Tn (d + 6) m_X6_emptyLoop 57 T σ [(0, .ref a), (1, .ref rx1), (2, .int (iI c2)), (3, .int (iI c3)), (4, .int (iI i4)), (5, .int (iI i5))] [] post) : ∀ (n : Nat) (i4 : Int) (i5 : Int) (σ : MS) , (WT T σ) → (FrC T [] σ0 σ) → (-2147483648 ≤ i4 ∧ i4 ≤ 2147483647) → (0 ≤ i5 ∧ i5 ≤ 2147483647) → (2147483700 - i5).toNat = n → Tn (d + 6) m_X6_emptyLoop 13 T σ [(0, .ref a), (1, .ref rx1), (2, .int (iI c2)), (3, .int (iI c3)), (4, .int (iI i4)), (5, .int (iI i5))] [] post := by
  intro n
  induction n using Nat.strongRecOn with
  | _ n ih =>
    intro i4 i5 σ hw hF r_i4 r_i5 hm
    refine tn_iload dX6_emptyLoop_13 5 rfl ?_
    refine tn_sipush dX6_emptyLoop_15 (by decide) ?_
    refine tn_icmp_ge (tgt := 57) dX6_emptyLoop_18 (by decide) ⟨by omega, by omega⟩ ⟨by decide, by decide⟩ (fun h1 => ?_) (fun h1 => ?_)
    · exact tn_sub [0, 1, 2, 3, 4, 5] rfl (hx_57 (i4) (i5) σ hw (FrC.rfl.trans (FrC.sub hF (by decide))) (by omega) (by omega))
    · refine tn_aload_n dX6_emptyLoop_21 rfl 0 rfl ?_
      refine tn_aload_n dX6_emptyLoop_22 rfl 1 rfl ?_
      refine tn_iload dX6_emptyLoop_23 4 rfl ?_
      refine tn_iload_n dX6_emptyLoop_25 rfl 3 rfl ?_
      refine tn_callV (M := m_X6_emptyLoop) (pc := 26) (ix := 99) (ci := 6) (M' := m_X6_firstMovable) (As := [.ref rx1, .int (iI i4), .int (iI c3)]) (rest := []) dX6_emptyLoop_26 ok_X6_firstMovable im_X6_firstMovable se_X6_firstMovable ml6_99 np_X6_firstMovable rfl rfl h_a rfl (Nat.le_of_ble_eq_true rfl) (Nat.le_of_ble_eq_true rfl) rfl (k_X6_firstMovable (d) (T := T) (σ := σ) (a := a) (p1 := rx1) (p2 := i4) (p3 := c3) h_a h_rx1 t_rx1 (by omega) (by omega) hw (by omega)) (fun r2 T4 σ3 gt5 hp => ?_)
      obtain ⟨v7, rfl, rfl, w8, F9, f6⟩ := hp
      clear gt5
      show Tn _ _ 29 T σ3 [(0, .ref a), (1, .ref rx1), (2, .int (iI c2)), (3, .int (iI c3)), (4, .int (iI i4)), (5, .int (iI i5))] [.int (iI v7)] _
      refine tn_istore (L' := [(6, .int (iI v7)), (0, .ref a), (1, .ref rx1), (2, .int (iI c2)), (3, .int (iI c3)), (4, .int (iI i4)), (5, .int (iI i5))]) dX6_emptyLoop_29 (by decide) rfl ?_
      refine tn_iload dX6_emptyLoop_31 0 rfl ?_
      refine tn_iconst dX6_emptyLoop_33 ?_
      refine tn_icmp_ne (tgt := 40) dX6_emptyLoop_34 (by decide) ⟨by omega, by omega⟩ ⟨by decide, by decide⟩ (fun h10 => ?_) (fun h10 => ?_)
      · refine tn_aload_n dX6_emptyLoop_40 rfl 2 rfl ?_
        refine tn_iload dX6_emptyLoop_41 0 rfl ?_
        refine tn_iload dX6_emptyLoop_43 5 rfl ?_
        refine tn_callV (M := m_X6_emptyLoop) (pc := 45) (ix := 103) (ci := 1) (M' := m_X1_liftRow) (As := [.int (iI v7), .int (iI i4)]) (rest := []) dX6_emptyLoop_45 ok_X1_liftRow im_X1_liftRow se_X1_liftRow ml6_103 np_X1_liftRow rfl rfl h_rx1 rfl (Nat.le_of_ble_eq_true rfl) (Nat.le_of_ble_eq_true rfl) rfl (k_X1_liftRow (d + 4) (T := T) (σ := σ3) (a := rx1) (f := v7) (t := i4) h_rx1 t_rx1 (by omega) (by omega) w8 ) (fun r11 T13 σ12 gt14 hp => ?_)
        obtain ⟨rfl, rfl, w16, F17⟩ := hp
        clear gt14
        show Tn _ _ 48 T σ12 [(6, .int (iI v7)), (0, .ref a), (1, .ref rx1), (2, .int (iI c2)), (3, .int (iI c3)), (4, .int (iI i4)), (5, .int (iI i5))] [] _
        refine tn_iinc (q0 := 5) (L' := [(4, .int (iI (i4 + 1))), (6, .int (iI v7)), (0, .ref a), (1, .ref rx1), (2, .int (iI c2)), (3, .int (iI c3)), (5, .int (iI i5))]) dX6_emptyLoop_48 rfl (by decide) rfl ?_
        obtain ⟨z18, g19, g19e⟩ := wr_ex (i4 + 1)
        rw [g19e]
        have g19r : -2147483648 ≤ z18 ∧ z18 ≤ 2147483647 := g19
        refine tn_iinc (q0 := 6) (L' := [(5, .int (iI (i5 + 1))), (4, .int (iI z18)), (6, .int (iI v7)), (0, .ref a), (1, .ref rx1), (2, .int (iI c2)), (3, .int (iI c3))]) dX6_emptyLoop_51 rfl (by decide) rfl ?_
        refine tn_goto (tgt := 13) dX6_emptyLoop_54 (by decide) ?_
        exact tn_sub [3, 4, 5, 6, 1, 0] rfl (ih _ (by omega) (z18) (i5 + 1) σ12 w16 (((FrC.rfl.trans (FrC.sub hF (by decide))).trans (FrC.sub F9 (by decide))).trans (FrC.sub F17 (by decide))) (by omega) (by omega) rfl)
      · exact tn_sub [1, 2, 3, 4, 5, 6] rfl (hx_37 (i4) (i5) σ3 w8 ((FrC.rfl.trans (FrC.sub hF (by decide))).trans (FrC.sub F9 (by decide))) (by omega) (by omega))
theorem dX6_emptyLoop_37 : decode cX6_emptyLoop 37 = .ok (.goto 20, 3) := by decide +kernel
theorem dX6_emptyLoop_57 : decode cX6_emptyLoop 57 = .ok (.iload 4, 2) := by decide +kernel
theorem dX6_emptyLoop_59 : decode cX6_emptyLoop 59 = .ok (.iload_n 2, 1) := by decide +kernel
theorem dX6_emptyLoop_60 : decode cX6_emptyLoop 60 = .ok (.isub, 1) := by decide +kernel
theorem dX6_emptyLoop_61 : decode cX6_emptyLoop 61 = .ok (.ireturn, 1) := by decide +kernel
set_option maxRecDepth 20000 in
theorem k_X6_emptyLoop (d : Nat) {T : CT} {σ : MS} {a : Nat} {p1 : Nat} {p2 : Int} (ha : OB T a 6) (h_p1 : OB T p1 1) (t_p1 : (T p1).1 = 50) (h_p2 : -2147483648 ≤ p2 ∧ p2 ≤ 2147483647) (hw : WT T σ) (hl : 0 ≤ p2) : Tn (d + 6) m_X6_emptyLoop 0 T σ [(0, .ref a), (1, .ref p1), (2, .int (iI p2))] [] (fun ro T2 σ2 => ∃ v : Int, ro = some (.int (iI v)) ∧ T = T2 ∧ WT T2 σ2 ∧ FrC T [] σ σ2 ∧ (-2147483648 ≤ v ∧ v ≤ 2147483647)) := by
  refine tn_aload_n dX6_emptyLoop_0 rfl 0 rfl ?_
  refine tn_aload_n dX6_emptyLoop_1 rfl 1 rfl ?_
  refine tn_iload_n dX6_emptyLoop_2 rfl 2 rfl ?_
  refine tn_callV (M := m_X6_emptyLoop) (pc := 3) (ix := 96) (ci := 6) (M' := m_X6_lastJumpTo) (As := [.ref p1, .int (iI p2)]) (rest := []) dX6_emptyLoop_3 ok_X6_lastJumpTo im_X6_lastJumpTo se_X6_lastJumpTo ml6_96 np_X6_lastJumpTo rfl rfl ha rfl (Nat.le_of_ble_eq_true rfl) (Nat.le_of_ble_eq_true rfl) rfl (k_X6_lastJumpTo (d + 3) (T := T) (σ := σ) (a := a) (p1 := p1) (p2 := p2) ha h_p1 t_p1 (by omega) hw (by omega)) (fun r1 T3 σ2 gt4 hp => ?_)
  obtain ⟨v7, rfl, rfl, rfl, f5, f6⟩ := hp
  clear gt4
  show Tn _ _ 6 T σ [(0, .ref a), (1, .ref p1), (2, .int (iI p2))] [.int (iI v7)] _
  refine tn_istore_n (L' := [(3, .int (iI v7)), (0, .ref a), (1, .ref p1), (2, .int (iI p2))]) dX6_emptyLoop_6 rfl (by decide) rfl ?_
  refine tn_iload_n dX6_emptyLoop_7 rfl 3 rfl ?_
  refine tn_istore (L' := [(4, .int (iI p2)), (3, .int (iI v7)), (0, .ref a), (1, .ref p1), (2, .int (iI p2))]) dX6_emptyLoop_8 (by decide) rfl ?_
  refine tn_iconst dX6_emptyLoop_10 ?_
  refine tn_istore (L' := [(5, .int (iI 0)), (4, .int (iI p2)), (3, .int (iI v7)), (0, .ref a), (1, .ref p1), (2, .int (iI p2))]) dX6_emptyLoop_11 (by decide) rfl ?_
  refine tn_sub [3, 4, 5, 2, 1, 0] rfl (l_X6_emptyLoop_13 (d) (T := T) (σ0 := σ) (a := a) (rx1 := p1) (c2 := p2) (c3 := v7) ha h_p1 t_p1 (by omega) (by omega) hw (fun i48 i59 σ10 w13 F14 r15 r16 => ?_) (fun i417 i518 σ19 w22 F23 r24 r25 => ?_) _ (p2) (0) σ hw FrC.rfl (by omega) (by omega) rfl)
  · show Tn _ _ 37 T σ10 [(0, .ref a), (1, .ref p1), (2, .int (iI p2)), (3, .int (iI v7)), (4, .int (iI i48)), (5, .int (iI i59))] [] _
    refine tn_goto (tgt := 57) dX6_emptyLoop_37 (by decide) ?_
    refine tn_iload dX6_emptyLoop_57 4 rfl ?_
    refine tn_iload_n dX6_emptyLoop_59 rfl 2 rfl ?_
    refine tn_isub dX6_emptyLoop_60 ?_
    refine tn_any (fun z26 g27 => ?_)
    have g27r : -2147483648 ≤ z26 ∧ z26 ≤ 2147483647 := g27
    exact tn_iret rfl dX6_emptyLoop_61 ⟨_, rfl, rfl, w13, (FrC.rfl.trans (FrC.sub F14 (by decide))), by omega⟩
  · show Tn _ _ 57 T σ19 [(0, .ref a), (1, .ref p1), (2, .int (iI p2)), (3, .int (iI v7)), (4, .int (iI i417)), (5, .int (iI i518))] [] _
    refine tn_iload dX6_emptyLoop_57 4 rfl ?_
    refine tn_iload_n dX6_emptyLoop_59 rfl 2 rfl ?_
    refine tn_isub dX6_emptyLoop_60 ?_
    refine tn_any (fun z28 g29 => ?_)
    have g29r : -2147483648 ≤ z28 ∧ z28 ≤ 2147483647 := g29
    exact tn_iret rfl dX6_emptyLoop_61 ⟨_, rfl, rfl, w22, (FrC.rfl.trans (FrC.sub F23 (by decide))), by omega⟩
end
section
theorem cd_X6_move : Cond.code yX6_move cX6_move 4 (some .int) ∈ pWW := pw5 (List.mem_of_getElem? (i := 85) rfl) rfl
abbrev m_X6_move : MT := (yX6_move, cX6_move, 4, (some .int))
theorem ok_X6_move : pOk m_X6_move := ⟨⟨cd_X6_move, ini_6⟩, by decide +kernel, ⟨by decide +kernel, by decide +kernel⟩, Nat.le_of_ble_eq_true rfl⟩
theorem np_X6_move : (parseMethodDescriptor yX6_move.desc).map (fun d => d.parameters.length) = some 1 := by decide +kernel
theorem im_X6_move : Cond.instanceMethod yX6_move ∈ pWW := pw5 (List.mem_of_getElem? (i := 83) rfl) rfl
theorem se_X6_move : Cond.selects RX6 yX6_move yX6_move ∈ pWW := pw5 (List.mem_of_getElem? (i := 84) rfl) rfl
theorem ml6_92 : Cond.methodLink RX6 92 yX6_emptyLoop ∈ pWW := pw5 (List.mem_of_getElem? (i := 86) rfl) rfl
theorem dX6_move_0 : decode cX6_move 0 = .ok (.iconst 0, 1) := by decide +kernel
theorem dX6_move_1 : decode cX6_move 1 = .ok (.istore_n 2, 1) := by decide +kernel
theorem dX6_move_2 : decode cX6_move 2 = .ok (.aload_n 1, 1) := by decide +kernel
theorem dX6_move_3 : decode cX6_move 3 = .ok (.getfield 22, 3) := by decide +kernel
theorem dX6_move_6 : decode cX6_move 6 = .ok (.iconst 1, 1) := by decide +kernel
theorem dX6_move_7 : decode cX6_move 7 = .ok (.isub, 1) := by decide +kernel
theorem dX6_move_8 : decode cX6_move 8 = .ok (.istore_n 3, 1) := by decide +kernel
theorem dX6_move_9 : decode cX6_move 9 = .ok (.iload_n 3, 1) := by decide +kernel
theorem dX6_move_10 : decode cX6_move 10 = .ok (.ifCond .lt 29, 3) := by decide +kernel
theorem dX6_move_13 : decode cX6_move 13 = .ok (.aload_n 1, 1) := by decide +kernel
theorem dX6_move_14 : decode cX6_move 14 = .ok (.iload_n 3, 1) := by decide +kernel
theorem dX6_move_15 : decode cX6_move 15 = .ok (.iconst 0, 1) := by decide +kernel
theorem dX6_move_16 : decode cX6_move 16 = .ok (.invokevirtual 34, 3) := by decide +kernel
theorem dX6_move_19 : decode cX6_move 19 = .ok (.bipush 13, 2) := by decide +kernel
theorem dX6_move_21 : decode cX6_move 21 = .ok (.if_icmp .ne 12, 3) := by decide +kernel
theorem dX6_move_33 : decode cX6_move 33 = .ok (.iinc 3 (-1), 3) := by decide +kernel
theorem dX6_move_36 : decode cX6_move 36 = .ok (.goto (-27), 3) := by decide +kernel
theorem dX6_move_24 : decode cX6_move 24 = .ok (.iload_n 2, 1) := by decide +kernel
theorem dX6_move_25 : decode cX6_move 25 = .ok (.aload_n 0, 1) := by decide +kernel
theorem dX6_move_26 : decode cX6_move 26 = .ok (.aload_n 1, 1) := by decide +kernel
theorem dX6_move_27 : decode cX6_move 27 = .ok (.iload_n 3, 1) := by decide +kernel
theorem dX6_move_28 : decode cX6_move 28 = .ok (.invokevirtual 92, 3) := by decide +kernel
theorem dX6_move_31 : decode cX6_move 31 = .ok (.iadd, 1) := by decide +kernel
theorem dX6_move_32 : decode cX6_move 32 = .ok (.istore_n 2, 1) := by decide +kernel
set_option maxRecDepth 20000 in
theorem l_X6_move_9 (d : Nat) {T : CT} {σ0 : MS} {a : Nat} {rx1 : Nat} {post : Option Value → CT → MS → Prop} (h_a : OB T a 6) (h_rx1 : OB T rx1 1) (t_rx1 : (T rx1).1 = 50) (hw0 : WT T σ0) (hx_39 : ∀ (i2 : Int) (i3 : Int) (σ : MS) , (WT T σ) → (FrC T [] σ0 σ) → (-2147483648 ≤ i2 ∧ i2 ≤ 2147483647) → (-1 ≤ i3 ∧ i3 ≤ 199) → Tn (d + 7) m_X6_move 39 T σ [(0, .ref a), (1, .ref rx1), (2, .int (iI i2)), (3, .int (iI i3))] [] post) : ∀ (n : Nat) (i2 : Int) (i3 : Int) (σ : MS) , (WT T σ) → (FrC T [] σ0 σ) → (-2147483648 ≤ i2 ∧ i2 ≤ 2147483647) → (-1 ≤ i3 ∧ i3 ≤ 199) → (i3 + 20).toNat = n → Tn (d + 7) m_X6_move 9 T σ [(0, .ref a), (1, .ref rx1), (2, .int (iI i2)), (3, .int (iI i3))] [] post := by
  intro n
  induction n using Nat.strongRecOn with
  | _ n ih =>
    intro i2 i3 σ hw hF r_i2 r_i3 hm
    refine tn_iload_n dX6_move_9 rfl 3 rfl ?_
    refine tn_if_lt (tgt := 39) dX6_move_10 (by decide) ⟨by omega, by omega⟩ (fun h1 => ?_) (fun h1 => ?_)
    · exact tn_sub [0, 1, 2, 3] rfl (hx_39 (i2) (i3) σ hw (FrC.rfl.trans (FrC.sub hF (by decide))) (by omega) (by omega))
    · refine tn_aload_n dX6_move_13 rfl 1 rfl ?_
      refine tn_iload_n dX6_move_14 rfl 3 rfl ?_
      refine tn_iconst dX6_move_15 ?_
      refine tn_callV (M := m_X6_move) (pc := 16) (ix := 34) (ci := 1) (M' := m_X1_get) (As := [.int (iI i3), .int (iI 0)]) (rest := []) dX6_move_16 ok_X1_get im_X1_get se_X1_get ml6_34 np_X1_get rfl rfl h_rx1 rfl (Nat.le_of_ble_eq_true rfl) (Nat.le_of_ble_eq_true rfl) rfl (k_X1_get (d + 5) (T := T) (σ := σ) (a := rx1) (k := i3) (c := 0) h_rx1 (by omega) (by decide) hw (by omega)) (fun r2 T4 σ3 gt5 hp => ?_)
      obtain ⟨v7, rfl, rfl, rfl, f6⟩ := hp
      clear gt5
      show Tn _ _ 19 T σ [(0, .ref a), (1, .ref rx1), (2, .int (iI i2)), (3, .int (iI i3))] [.int (iI v7)] _
      refine tn_bipush dX6_move_19 (by decide) ?_
      refine tn_icmp_ne (tgt := 33) dX6_move_21 (by decide) ⟨by omega, by omega⟩ ⟨by decide, by decide⟩ (fun h8 => ?_) (fun h8 => ?_)
      · refine tn_iinc (q0 := 3) (L' := [(3, .int (iI (i3 + (-1)))), (0, .ref a), (1, .ref rx1), (2, .int (iI i2))]) dX6_move_33 rfl (by decide) rfl ?_
        refine tn_goto (tgt := 9) dX6_move_36 (by decide) ?_
        exact tn_sub [1, 2, 3, 0] rfl (ih _ (by omega) (i2) (i3 + (-1)) σ hw (FrC.rfl.trans (FrC.sub hF (by decide))) (by omega) (by omega) rfl)
      · refine tn_iload_n dX6_move_24 rfl 2 rfl ?_
        refine tn_aload_n dX6_move_25 rfl 0 rfl ?_
        refine tn_aload_n dX6_move_26 rfl 1 rfl ?_
        refine tn_iload_n dX6_move_27 rfl 3 rfl ?_
        refine tn_callV (M := m_X6_move) (pc := 28) (ix := 92) (ci := 6) (M' := m_X6_emptyLoop) (As := [.ref rx1, .int (iI i3)]) (rest := [.int (iI i2)]) dX6_move_28 ok_X6_emptyLoop im_X6_emptyLoop se_X6_emptyLoop ml6_92 np_X6_emptyLoop rfl rfl h_a rfl (Nat.le_of_ble_eq_true rfl) (Nat.le_of_ble_eq_true rfl) rfl (k_X6_emptyLoop (d) (T := T) (σ := σ) (a := a) (p1 := rx1) (p2 := i3) h_a h_rx1 t_rx1 (by omega) hw (by omega)) (fun r9 T11 σ10 gt12 hp => ?_)
        obtain ⟨v14, rfl, rfl, w15, F16, f13⟩ := hp
        clear gt12
        show Tn _ _ 31 T σ10 [(0, .ref a), (1, .ref rx1), (2, .int (iI i2)), (3, .int (iI i3))] [.int (iI v14), .int (iI i2)] _
        refine tn_iadd dX6_move_31 ?_
        refine tn_any (fun z17 g18 => ?_)
        have g18r : -2147483648 ≤ z17 ∧ z17 ≤ 2147483647 := g18
        refine tn_istore_n (L' := [(2, .int (iI z17)), (0, .ref a), (1, .ref rx1), (3, .int (iI i3))]) dX6_move_32 rfl (by decide) rfl ?_
        refine tn_iinc (q0 := 3) (L' := [(3, .int (iI (i3 + (-1)))), (2, .int (iI z17)), (0, .ref a), (1, .ref rx1)]) dX6_move_33 rfl (by decide) rfl ?_
        refine tn_goto (tgt := 9) dX6_move_36 (by decide) ?_
        exact tn_sub [2, 3, 1, 0] rfl (ih _ (by omega) (z17) (i3 + (-1)) σ10 w15 ((FrC.rfl.trans (FrC.sub hF (by decide))).trans (FrC.sub F16 (by decide))) (by omega) (by omega) rfl)
theorem dX6_move_39 : decode cX6_move 39 = .ok (.iload_n 2, 1) := by decide +kernel
theorem dX6_move_40 : decode cX6_move 40 = .ok (.ireturn, 1) := by decide +kernel
set_option maxRecDepth 20000 in
theorem k_X6_move (d : Nat) {T : CT} {σ : MS} {a : Nat} {p1 : Nat} (ha : OB T a 6) (h_p1 : OB T p1 1) (t_p1 : (T p1).1 = 50) (hw : WT T σ) : Tn (d + 7) m_X6_move 0 T σ [(0, .ref a), (1, .ref p1)] [] (fun ro T2 σ2 => ∃ v : Int, ro = some (.int (iI v)) ∧ T = T2 ∧ WT T2 σ2 ∧ FrC T [] σ σ2 ∧ (-2147483648 ≤ v ∧ v ≤ 2147483647)) := by
  refine tn_iconst dX6_move_0 ?_
  refine tn_istore_n (L' := [(2, .int (iI 0)), (0, .ref a), (1, .ref p1)]) dX6_move_1 rfl (by decide) rfl ?_
  refine tn_aload_n dX6_move_2 rfl 2 rfl ?_
  refine tn_getI (ci := 1) (i := 1) (n := 6) (t := σ.2.1 6 p1) dX6_move_3 rfl lay_1 (by decide) fl6_22 h_p1 rfl rfl (rfl) ?_
  have g1 : ((0 : Int) ≤ σ.2.1 6 p1 ∧ σ.2.1 6 p1 ≤ 5000) ∧ ((T p1).1 = 50 → σ.2.1 6 p1 ≤ 200) := wf_6 hw h_p1
  have g1x := g1.2
  replace g1 := g1.1
  have g1x := g1x t_p1
  refine tn_iconst dX6_move_6 ?_
  refine tn_isub dX6_move_7 ?_
  refine tn_istore_n (L' := [(3, .int (iI ((σ.2.1 6 p1) - 1))), (2, .int (iI 0)), (0, .ref a), (1, .ref p1)]) dX6_move_8 rfl (by decide) rfl ?_
  refine tn_sub [2, 3, 1, 0] rfl (l_X6_move_9 (d) (T := T) (σ0 := σ) (a := a) (rx1 := p1) ha h_p1 t_p1 hw (fun i22 i33 σ4 w7 F8 r9 r10 => ?_) _ (0) ((σ.2.1 6 p1) - 1) σ hw FrC.rfl (by omega) (by omega) rfl)
  show Tn _ _ 39 T σ4 [(0, .ref a), (1, .ref p1), (2, .int (iI i22)), (3, .int (iI i33))] [] _
  refine tn_iload_n dX6_move_39 rfl 2 rfl ?_
  exact tn_iret rfl dX6_move_40 ⟨_, rfl, rfl, w7, (FrC.rfl.trans (FrC.sub F8 (by decide))), by omega⟩
end
section
theorem cd_X6_latestTwin : Cond.code yX6_latestTwin cX6_latestTwin 6 (some .int) ∈ pWW := pw5 (List.mem_of_getElem? (i := 129) rfl) rfl
abbrev m_X6_latestTwin : MT := (yX6_latestTwin, cX6_latestTwin, 6, (some .int))
theorem ok_X6_latestTwin : pOk m_X6_latestTwin := ⟨⟨cd_X6_latestTwin, ini_6⟩, by decide +kernel, ⟨by decide +kernel, by decide +kernel⟩, Nat.le_of_ble_eq_true rfl⟩
theorem np_X6_latestTwin : (parseMethodDescriptor yX6_latestTwin.desc).map (fun d => d.parameters.length) = some 2 := by decide +kernel
theorem im_X6_latestTwin : Cond.instanceMethod yX6_latestTwin ∈ pWW := pw5 (List.mem_of_getElem? (i := 128) rfl) rfl
theorem se_X6_latestTwin : Cond.selects RX6 yX6_latestTwin yX6_latestTwin ∈ pWW := pws (List.mem_map.mpr ⟨_, lw_pin 63 rfl, rfl⟩) rfl
theorem ml6_138 : Cond.methodLink RX6 138 yX1_sameOperands ∈ pWW := pw5 (List.mem_of_getElem? (i := 130) rfl) rfl
theorem dX6_latestTwin_0 : decode cX6_latestTwin 0 = .ok (.aload_n 0, 1) := by decide +kernel
theorem dX6_latestTwin_1 : decode cX6_latestTwin 1 = .ok (.getfield 18, 3) := by decide +kernel
theorem dX6_latestTwin_4 : decode cX6_latestTwin 4 = .ok (.iconst 3, 1) := by decide +kernel
theorem dX6_latestTwin_5 : decode cX6_latestTwin 5 = .ok (.invokestatic 123, 3) := by decide +kernel
theorem dX6_latestTwin_8 : decode cX6_latestTwin 8 = .ok (.iload_n 2, 1) := by decide +kernel
theorem dX6_latestTwin_9 : decode cX6_latestTwin 9 = .ok (.iconst 1, 1) := by decide +kernel
theorem dX6_latestTwin_10 : decode cX6_latestTwin 10 = .ok (.isub, 1) := by decide +kernel
theorem dX6_latestTwin_11 : decode cX6_latestTwin 11 = .ok (.istore_n 3, 1) := by decide +kernel
theorem dX6_latestTwin_12 : decode cX6_latestTwin 12 = .ok (.iload_n 3, 1) := by decide +kernel
theorem dX6_latestTwin_13 : decode cX6_latestTwin 13 = .ok (.ifCond .lt 97, 3) := by decide +kernel
theorem dX6_latestTwin_16 : decode cX6_latestTwin 16 = .ok (.aload_n 1, 1) := by decide +kernel
theorem dX6_latestTwin_17 : decode cX6_latestTwin 17 = .ok (.iload_n 3, 1) := by decide +kernel
theorem dX6_latestTwin_18 : decode cX6_latestTwin 18 = .ok (.iconst 0, 1) := by decide +kernel
theorem dX6_latestTwin_19 : decode cX6_latestTwin 19 = .ok (.invokevirtual 34, 3) := by decide +kernel
theorem dX6_latestTwin_22 : decode cX6_latestTwin 22 = .ok (.bipush 13, 2) := by decide +kernel
theorem dX6_latestTwin_24 : decode cX6_latestTwin 24 = .ok (.if_icmp .eq 86, 3) := by decide +kernel
theorem dX6_latestTwin_27 : decode cX6_latestTwin 27 = .ok (.aload_n 1, 1) := by decide +kernel
theorem dX6_latestTwin_28 : decode cX6_latestTwin 28 = .ok (.iload_n 3, 1) := by decide +kernel
theorem dX6_latestTwin_29 : decode cX6_latestTwin 29 = .ok (.invokevirtual 84, 3) := by decide +kernel
theorem dX6_latestTwin_32 : decode cX6_latestTwin 32 = .ok (.istore 4, 2) := by decide +kernel
theorem dX6_latestTwin_34 : decode cX6_latestTwin 34 = .ok (.aload_n 0, 1) := by decide +kernel
theorem dX6_latestTwin_35 : decode cX6_latestTwin 35 = .ok (.getfield 18, 3) := by decide +kernel
theorem dX6_latestTwin_38 : decode cX6_latestTwin 38 = .ok (.iconst 0, 1) := by decide +kernel
theorem dX6_latestTwin_39 : decode cX6_latestTwin 39 = .ok (.iload 4, 2) := by decide +kernel
theorem dX6_latestTwin_41 : decode cX6_latestTwin 41 = .ok (.invokestatic 131, 3) := by decide +kernel
theorem dX6_latestTwin_44 : decode cX6_latestTwin 44 = .ok (.ifCond .ne 7, 3) := by decide +kernel
theorem dX6_latestTwin_51 : decode cX6_latestTwin 51 = .ok (.iconst 0, 1) := by decide +kernel
theorem dX6_latestTwin_52 : decode cX6_latestTwin 52 = .ok (.istore 5, 2) := by decide +kernel
theorem dX6_latestTwin_54 : decode cX6_latestTwin 54 = .ok (.aload_n 0, 1) := by decide +kernel
theorem dX6_latestTwin_55 : decode cX6_latestTwin 55 = .ok (.getfield 18, 3) := by decide +kernel
theorem dX6_latestTwin_58 : decode cX6_latestTwin 58 = .ok (.iconst 0, 1) := by decide +kernel
theorem dX6_latestTwin_59 : decode cX6_latestTwin 59 = .ok (.iload 4, 2) := by decide +kernel
theorem dX6_latestTwin_61 : decode cX6_latestTwin 61 = .ok (.invokestatic 127, 3) := by decide +kernel
theorem dX6_latestTwin_64 : decode cX6_latestTwin 64 = .ok (.iload 5, 2) := by decide +kernel
theorem dX6_latestTwin_66 : decode cX6_latestTwin 66 = .ok (.ifCond .eq 38, 3) := by decide +kernel
theorem dX6_latestTwin_104 : decode cX6_latestTwin 104 = .ok (.iinc 3 (-1), 3) := by decide +kernel
theorem dX6_latestTwin_107 : decode cX6_latestTwin 107 = .ok (.goto (-95), 3) := by decide +kernel
theorem dX6_latestTwin_47 : decode cX6_latestTwin 47 = .ok (.iconst 1, 1) := by decide +kernel
theorem dX6_latestTwin_48 : decode cX6_latestTwin 48 = .ok (.goto 4, 3) := by decide +kernel
theorem dX6_latestTwin_69 : decode cX6_latestTwin 69 = .ok (.aload_n 1, 1) := by decide +kernel
theorem dX6_latestTwin_70 : decode cX6_latestTwin 70 = .ok (.iload_n 3, 1) := by decide +kernel
theorem dX6_latestTwin_71 : decode cX6_latestTwin 71 = .ok (.iconst 0, 1) := by decide +kernel
theorem dX6_latestTwin_72 : decode cX6_latestTwin 72 = .ok (.invokevirtual 34, 3) := by decide +kernel
theorem dX6_latestTwin_75 : decode cX6_latestTwin 75 = .ok (.aload_n 1, 1) := by decide +kernel
theorem dX6_latestTwin_76 : decode cX6_latestTwin 76 = .ok (.iload_n 2, 1) := by decide +kernel
theorem dX6_latestTwin_77 : decode cX6_latestTwin 77 = .ok (.iconst 0, 1) := by decide +kernel
theorem dX6_latestTwin_78 : decode cX6_latestTwin 78 = .ok (.invokevirtual 34, 3) := by decide +kernel
theorem dX6_latestTwin_81 : decode cX6_latestTwin 81 = .ok (.if_icmp .ne 23, 3) := by decide +kernel
theorem dX6_latestTwin_84 : decode cX6_latestTwin 84 = .ok (.aload_n 1, 1) := by decide +kernel
theorem dX6_latestTwin_85 : decode cX6_latestTwin 85 = .ok (.iload_n 3, 1) := by decide +kernel
theorem dX6_latestTwin_86 : decode cX6_latestTwin 86 = .ok (.iload_n 2, 1) := by decide +kernel
theorem dX6_latestTwin_87 : decode cX6_latestTwin 87 = .ok (.invokevirtual 138, 3) := by decide +kernel
theorem dX6_latestTwin_90 : decode cX6_latestTwin 90 = .ok (.ifCond .eq 14, 3) := by decide +kernel
theorem dX6_latestTwin_93 : decode cX6_latestTwin 93 = .ok (.aload_n 0, 1) := by decide +kernel
theorem dX6_latestTwin_94 : decode cX6_latestTwin 94 = .ok (.aload_n 1, 1) := by decide +kernel
theorem dX6_latestTwin_95 : decode cX6_latestTwin 95 = .ok (.iload_n 3, 1) := by decide +kernel
theorem dX6_latestTwin_96 : decode cX6_latestTwin 96 = .ok (.invokevirtual 114, 3) := by decide +kernel
theorem dX6_latestTwin_99 : decode cX6_latestTwin 99 = .ok (.ifCond .eq 5, 3) := by decide +kernel
set_option maxRecDepth 20000 in
theorem l_X6_latestTwin_12 (d : Nat) {T : CT} {σ0 : MS} {a : Nat} {rx1 : Nat} {c2 : Int} {post : Option Value → CT → MS → Prop} (h_a : OB T a 6) (h_rx1 : OB T rx1 1) (t_rx1 : (T rx1).1 = 50) (r_c2 : -2147483648 ≤ c2 ∧ c2 ≤ 2147483647) (hw0 : WT T σ0) (hx_102 : ∀ (i3 : Int) (σ : MS) , (WT T σ) → (FrC T [] σ0 σ) → (-2147483648 ≤ i3 ∧ i3 ≤ 2147483647) → Tn (d + 4) m_X6_latestTwin 102 T σ [(0, .ref a), (1, .ref rx1), (2, .int (iI c2)), (3, .int (iI i3))] [] post) (hx_110 : ∀ (i3 : Int) (σ : MS) , (WT T σ) → (FrC T [] σ0 σ) → (-2147483648 ≤ i3 ∧ i3 ≤ 2147483647) → Tn (d + 4) m_X6_latestTwin 110 T σ [(0, .ref a), (1, .ref rx1), (2, .int (iI c2)), (3, .int (iI i3))] [] post) : ∀ (n : Nat) (i3 : Int) (σ : MS) , (WT T σ) → (FrC T [] σ0 σ) → (-2147483648 ≤ i3 ∧ i3 ≤ 2147483647) → (i3 + 20).toNat = n → Tn (d + 4) m_X6_latestTwin 12 T σ [(0, .ref a), (1, .ref rx1), (2, .int (iI c2)), (3, .int (iI i3))] [] post := by
  intro n
  induction n using Nat.strongRecOn with
  | _ n ih =>
    intro i3 σ hw hF r_i3 hm
    refine tn_iload_n dX6_latestTwin_12 rfl 3 rfl ?_
    refine tn_if_lt (tgt := 110) dX6_latestTwin_13 (by decide) ⟨by omega, by omega⟩ (fun h1 => ?_) (fun h1 => ?_)
    · exact tn_sub [0, 1, 2, 3] rfl (hx_110 (i3) σ hw (FrC.rfl.trans (FrC.sub hF (by decide))) (by omega))
    · refine tn_aload_n dX6_latestTwin_16 rfl 1 rfl ?_
      refine tn_iload_n dX6_latestTwin_17 rfl 3 rfl ?_
      refine tn_iconst dX6_latestTwin_18 ?_
      refine tn_callV (M := m_X6_latestTwin) (pc := 19) (ix := 34) (ci := 1) (M' := m_X1_get) (As := [.int (iI i3), .int (iI 0)]) (rest := []) dX6_latestTwin_19 ok_X1_get im_X1_get se_X1_get ml6_34 np_X1_get rfl rfl h_rx1 rfl (Nat.le_of_ble_eq_true rfl) (Nat.le_of_ble_eq_true rfl) rfl (k_X1_get (d + 2) (T := T) (σ := σ) (a := rx1) (k := i3) (c := 0) h_rx1 (by omega) (by decide) hw (by omega)) (fun r2 T4 σ3 gt5 hp => ?_)
      obtain ⟨v7, rfl, rfl, rfl, f6⟩ := hp
      clear gt5
      show Tn _ _ 22 T σ [(0, .ref a), (1, .ref rx1), (2, .int (iI c2)), (3, .int (iI i3))] [.int (iI v7)] _
      refine tn_bipush dX6_latestTwin_22 (by decide) ?_
      refine tn_icmp_eq (tgt := 110) dX6_latestTwin_24 (by decide) ⟨by omega, by omega⟩ ⟨by decide, by decide⟩ (fun h8 => ?_) (fun h8 => ?_)
      · exact tn_sub [0, 1, 2, 3] rfl (hx_110 (i3) σ hw (FrC.rfl.trans (FrC.sub hF (by decide))) (by omega))
      · refine tn_aload_n dX6_latestTwin_27 rfl 1 rfl ?_
        refine tn_iload_n dX6_latestTwin_28 rfl 3 rfl ?_
        refine tn_callV (M := m_X6_latestTwin) (pc := 29) (ix := 84) (ci := 1) (M' := m_X1_writtenBy) (As := [.int (iI i3)]) (rest := []) dX6_latestTwin_29 ok_X1_writtenBy im_X1_writtenBy se_X1_writtenBy ml6_84 np_X1_writtenBy rfl rfl h_rx1 rfl (Nat.le_of_ble_eq_true rfl) (Nat.le_of_ble_eq_true rfl) rfl (k_X1_writtenBy (d + 1) (T := T) (σ := σ) (a := rx1) (k := i3) h_rx1 (by omega) hw ) (fun r9 T11 σ10 gt12 hp => ?_)
        obtain ⟨v14, rfl, rfl, rfl, f13⟩ := hp
        clear gt12
        show Tn _ _ 32 T σ [(0, .ref a), (1, .ref rx1), (2, .int (iI c2)), (3, .int (iI i3))] [.int (iI v14)] _
        refine tn_istore (L' := [(4, .int (iI v14)), (0, .ref a), (1, .ref rx1), (2, .int (iI c2)), (3, .int (iI i3))]) dX6_latestTwin_32 (by decide) rfl ?_
        refine tn_aload_n dX6_latestTwin_34 rfl 1 rfl ?_
        obtain ⟨x15, hx16, hk17, hl18⟩ : ∃ x : Nat, σ0.2.1 54 a = (x : Int) ∧ AR T x 3 3 3 := wf_54 hw0 h_a
        refine tn_getR (ci := 6) (i := 2) (n := 54) (x := x15) dX6_latestTwin_35 rfl lay_6 (by decide) fl6_18 h_a rfl rfl (rc_F hF (Or.inl (by decide)) (by decide) (hx16)) ?_
        refine tn_iconst dX6_latestTwin_38 ?_
        refine tn_iload dX6_latestTwin_39 0 rfl ?_
        refine tn_callSN (M := m_X6_latestTwin) (pc := 41) (ix := 131) (M' := m_X11_has) (As := [.ref x15, .int (iI 0), .int (iI v14)]) (rest := []) dX6_latestTwin_41 ok_X11_has stt_X11_has nl6_131 np_X11_has rfl (Nat.le_of_ble_eq_true rfl) (Nat.le_of_ble_eq_true rfl) rfl (k_X11_has (d + 1) (T := T) (σ := σ) (x := x15) (k := 0) (r := v14) hk17 (by omega) (by decide) (by omega) hw ) (fun r19 T21 σ20 gt22 hp => ?_)
        obtain ⟨v24, rfl, rfl, rfl, f23⟩ := hp
        clear gt22
        show Tn _ _ 44 T σ [(4, .int (iI v14)), (0, .ref a), (1, .ref rx1), (2, .int (iI c2)), (3, .int (iI i3))] [.int (iI v24)] _
        refine tn_if_ne (tgt := 51) dX6_latestTwin_44 (by decide) ⟨by omega, by omega⟩ (fun h25 => ?_) (fun h25 => ?_)
        · refine tn_iconst dX6_latestTwin_51 ?_
          refine tn_istore (L' := [(5, .int (iI 0)), (4, .int (iI v14)), (0, .ref a), (1, .ref rx1), (2, .int (iI c2)), (3, .int (iI i3))]) dX6_latestTwin_52 (by decide) rfl ?_
          refine tn_aload_n dX6_latestTwin_54 rfl 2 rfl ?_
          refine tn_getR (ci := 6) (i := 2) (n := 54) (x := x15) dX6_latestTwin_55 rfl lay_6 (by decide) fl6_18 h_a rfl rfl (rc_F hF (Or.inl (by decide)) (by decide) (hx16)) ?_
          refine tn_iconst dX6_latestTwin_58 ?_
          refine tn_iload dX6_latestTwin_59 1 rfl ?_
          refine tn_callSN (M := m_X6_latestTwin) (pc := 61) (ix := 127) (M' := m_X11_include) (As := [.ref x15, .int (iI 0), .int (iI v14)]) (rest := []) dX6_latestTwin_61 ok_X11_include stt_X11_include nl6_127 np_X11_include rfl (Nat.le_of_ble_eq_true rfl) (Nat.le_of_ble_eq_true rfl) rfl (k_X11_include (d + 1) (T := T) (σ := σ) (x := x15) (k := 0) (r := v14) hk17 (by omega) (by decide) (by omega) hw ) (fun r26 T28 σ27 gt29 hp => ?_)
          obtain ⟨rfl, rfl, w31, F32⟩ := hp
          clear gt29
          show Tn _ _ 64 T σ27 [(5, .int (iI 0)), (4, .int (iI v14)), (0, .ref a), (1, .ref rx1), (2, .int (iI c2)), (3, .int (iI i3))] [] _
          refine tn_iload dX6_latestTwin_64 0 rfl ?_
          refine tn_if_eq (tgt := 104) dX6_latestTwin_66 (by decide) ⟨by decide, by decide⟩ (fun _ => ?_) (fun h => absurd h (by decide))
          refine tn_iinc (q0 := 5) (L' := [(3, .int (iI (i3 + (-1)))), (5, .int (iI 0)), (4, .int (iI v14)), (0, .ref a), (1, .ref rx1), (2, .int (iI c2))]) dX6_latestTwin_104 rfl (by decide) rfl ?_
          refine tn_goto (tgt := 12) dX6_latestTwin_107 (by decide) ?_
          exact tn_sub [3, 4, 5, 0] rfl (ih _ (by omega) (i3 + (-1)) σ27 w31 ((FrC.rfl.trans (FrC.sub hF (by decide))).trans (FrC.sub F32 (by decide))) (by omega) rfl)
        · refine tn_iconst dX6_latestTwin_47 ?_
          refine tn_goto (tgt := 52) dX6_latestTwin_48 (by decide) ?_
          refine tn_istore (L' := [(5, .int (iI 1)), (4, .int (iI v14)), (0, .ref a), (1, .ref rx1), (2, .int (iI c2)), (3, .int (iI i3))]) dX6_latestTwin_52 (by decide) rfl ?_
          refine tn_aload_n dX6_latestTwin_54 rfl 2 rfl ?_
          refine tn_getR (ci := 6) (i := 2) (n := 54) (x := x15) dX6_latestTwin_55 rfl lay_6 (by decide) fl6_18 h_a rfl rfl (rc_F hF (Or.inl (by decide)) (by decide) (hx16)) ?_
          refine tn_iconst dX6_latestTwin_58 ?_
          refine tn_iload dX6_latestTwin_59 1 rfl ?_
          refine tn_callSN (M := m_X6_latestTwin) (pc := 61) (ix := 127) (M' := m_X11_include) (As := [.ref x15, .int (iI 0), .int (iI v14)]) (rest := []) dX6_latestTwin_61 ok_X11_include stt_X11_include nl6_127 np_X11_include rfl (Nat.le_of_ble_eq_true rfl) (Nat.le_of_ble_eq_true rfl) rfl (k_X11_include (d + 1) (T := T) (σ := σ) (x := x15) (k := 0) (r := v14) hk17 (by omega) (by decide) (by omega) hw ) (fun r34 T36 σ35 gt37 hp => ?_)
          obtain ⟨rfl, rfl, w39, F40⟩ := hp
          clear gt37
          show Tn _ _ 64 T σ35 [(5, .int (iI 1)), (4, .int (iI v14)), (0, .ref a), (1, .ref rx1), (2, .int (iI c2)), (3, .int (iI i3))] [] _
          refine tn_iload dX6_latestTwin_64 0 rfl ?_
          refine tn_if_eq (tgt := 104) dX6_latestTwin_66 (by decide) ⟨by decide, by decide⟩ (fun h => absurd h (by decide)) (fun _ => ?_)
          refine tn_aload_n dX6_latestTwin_69 rfl 3 rfl ?_
          refine tn_iload_n dX6_latestTwin_70 rfl 5 rfl ?_
          refine tn_iconst dX6_latestTwin_71 ?_
          refine tn_callV (M := m_X6_latestTwin) (pc := 72) (ix := 34) (ci := 1) (M' := m_X1_get) (As := [.int (iI i3), .int (iI 0)]) (rest := []) dX6_latestTwin_72 ok_X1_get im_X1_get se_X1_get ml6_34 np_X1_get rfl rfl h_rx1 rfl (Nat.le_of_ble_eq_true rfl) (Nat.le_of_ble_eq_true rfl) rfl (k_X1_get (d + 2) (T := T) (σ := σ35) (a := rx1) (k := i3) (c := 0) h_rx1 (by omega) (by decide) w39 (by omega)) (fun r42 T44 σ43 gt45 hp => ?_)
          obtain ⟨v47, rfl, rfl, rfl, f46⟩ := hp
          clear gt45
          show Tn _ _ 75 T σ35 [(5, .int (iI 1)), (4, .int (iI v14)), (0, .ref a), (1, .ref rx1), (2, .int (iI c2)), (3, .int (iI i3))] [.int (iI v47)] _
          refine tn_aload_n dX6_latestTwin_75 rfl 3 rfl ?_
          refine tn_iload_n dX6_latestTwin_76 rfl 4 rfl ?_
          refine tn_iconst dX6_latestTwin_77 ?_
          refine tn_callV (M := m_X6_latestTwin) (pc := 78) (ix := 34) (ci := 1) (M' := m_X1_get) (As := [.int (iI c2), .int (iI 0)]) (rest := [.int (iI v47)]) dX6_latestTwin_78 ok_X1_get im_X1_get se_X1_get ml6_34 np_X1_get rfl rfl h_rx1 rfl (Nat.le_of_ble_eq_true rfl) (Nat.le_of_ble_eq_true rfl) rfl (k_X1_get (d + 2) (T := T) (σ := σ35) (a := rx1) (k := c2) (c := 0) h_rx1 (by omega) (by decide) w39 (by omega)) (fun r48 T50 σ49 gt51 hp => ?_)
          obtain ⟨v53, rfl, rfl, rfl, f52⟩ := hp
          clear gt51
          show Tn _ _ 81 T σ35 [(5, .int (iI 1)), (4, .int (iI v14)), (0, .ref a), (1, .ref rx1), (2, .int (iI c2)), (3, .int (iI i3))] [.int (iI v53), .int (iI v47)] _
          refine tn_icmp_ne (tgt := 104) dX6_latestTwin_81 (by decide) ⟨by omega, by omega⟩ ⟨by omega, by omega⟩ (fun h54 => ?_) (fun h54 => ?_)
          · refine tn_iinc (q0 := 5) (L' := [(3, .int (iI (i3 + (-1)))), (5, .int (iI 1)), (4, .int (iI v14)), (0, .ref a), (1, .ref rx1), (2, .int (iI c2))]) dX6_latestTwin_104 rfl (by decide) rfl ?_
            refine tn_goto (tgt := 12) dX6_latestTwin_107 (by decide) ?_
            exact tn_sub [3, 4, 5, 0] rfl (ih _ (by omega) (i3 + (-1)) σ35 w39 ((FrC.rfl.trans (FrC.sub hF (by decide))).trans (FrC.sub F40 (by decide))) (by omega) rfl)
          · refine tn_aload_n dX6_latestTwin_84 rfl 3 rfl ?_
            refine tn_iload_n dX6_latestTwin_85 rfl 5 rfl ?_
            refine tn_iload_n dX6_latestTwin_86 rfl 4 rfl ?_
            refine tn_callV (M := m_X6_latestTwin) (pc := 87) (ix := 138) (ci := 1) (M' := m_X1_sameOperands) (As := [.int (iI i3), .int (iI c2)]) (rest := []) dX6_latestTwin_87 ok_X1_sameOperands im_X1_sameOperands se_X1_sameOperands ml6_138 np_X1_sameOperands rfl rfl h_rx1 rfl (Nat.le_of_ble_eq_true rfl) (Nat.le_of_ble_eq_true rfl) rfl (k_X1_sameOperands (d + 1) (T := T) (σ := σ35) (a := rx1) (k := i3) (j := c2) h_rx1 (by omega) (by omega) w39 ) (fun r55 T57 σ56 gt58 hp => ?_)
            obtain ⟨v60, rfl, rfl, rfl, f59⟩ := hp
            clear gt58
            show Tn _ _ 90 T σ35 [(5, .int (iI 1)), (4, .int (iI v14)), (0, .ref a), (1, .ref rx1), (2, .int (iI c2)), (3, .int (iI i3))] [.int (iI v60)] _
            refine tn_if_eq (tgt := 104) dX6_latestTwin_90 (by decide) ⟨by omega, by omega⟩ (fun h61 => ?_) (fun h61 => ?_)
            · refine tn_iinc (q0 := 5) (L' := [(3, .int (iI (i3 + (-1)))), (5, .int (iI 1)), (4, .int (iI v14)), (0, .ref a), (1, .ref rx1), (2, .int (iI c2))]) dX6_latestTwin_104 rfl (by decide) rfl ?_
              refine tn_goto (tgt := 12) dX6_latestTwin_107 (by decide) ?_
              exact tn_sub [3, 4, 5, 0] rfl (ih _ (by omega) (i3 + (-1)) σ35 w39 ((FrC.rfl.trans (FrC.sub hF (by decide))).trans (FrC.sub F40 (by decide))) (by omega) rfl)
            · refine tn_aload_n dX6_latestTwin_93 rfl 2 rfl ?_
              refine tn_aload_n dX6_latestTwin_94 rfl 3 rfl ?_
              refine tn_iload_n dX6_latestTwin_95 rfl 5 rfl ?_
              refine tn_callV (M := m_X6_latestTwin) (pc := 96) (ix := 114) (ci := 6) (M' := m_X6_standsStill) (As := [.ref rx1, .int (iI i3)]) (rest := []) dX6_latestTwin_96 ok_X6_standsStill im_X6_standsStill se_X6_standsStill ml6_114 np_X6_standsStill rfl rfl h_a rfl (Nat.le_of_ble_eq_true rfl) (Nat.le_of_ble_eq_true rfl) rfl (k_X6_standsStill (d) (T := T) (σ := σ35) (a := a) (p1 := rx1) (p2 := i3) h_a h_rx1 t_rx1 (by omega) w39 ) (fun r62 T64 σ63 gt65 hp => ?_)
              obtain ⟨v67, rfl, rfl, rfl, f66⟩ := hp
              clear gt65
              show Tn _ _ 99 T σ35 [(5, .int (iI 1)), (4, .int (iI v14)), (0, .ref a), (1, .ref rx1), (2, .int (iI c2)), (3, .int (iI i3))] [.int (iI v67)] _
              refine tn_if_eq (tgt := 104) dX6_latestTwin_99 (by decide) ⟨by omega, by omega⟩ (fun h68 => ?_) (fun h68 => ?_)
              · refine tn_iinc (q0 := 5) (L' := [(3, .int (iI (i3 + (-1)))), (5, .int (iI 1)), (4, .int (iI v14)), (0, .ref a), (1, .ref rx1), (2, .int (iI c2))]) dX6_latestTwin_104 rfl (by decide) rfl ?_
                refine tn_goto (tgt := 12) dX6_latestTwin_107 (by decide) ?_
                exact tn_sub [3, 4, 5, 0] rfl (ih _ (by omega) (i3 + (-1)) σ35 w39 ((FrC.rfl.trans (FrC.sub hF (by decide))).trans (FrC.sub F40 (by decide))) (by omega) rfl)
              · exact tn_sub [2, 3, 4, 5] rfl (hx_102 (i3) σ35 w39 ((FrC.rfl.trans (FrC.sub hF (by decide))).trans (FrC.sub F40 (by decide))) (by omega))
theorem dX6_latestTwin_102 : decode cX6_latestTwin 102 = .ok (.iload_n 3, 1) := by decide +kernel
theorem dX6_latestTwin_103 : decode cX6_latestTwin 103 = .ok (.ireturn, 1) := by decide +kernel
theorem dX6_latestTwin_110 : decode cX6_latestTwin 110 = .ok (.iconst (-1), 1) := by decide +kernel
theorem dX6_latestTwin_111 : decode cX6_latestTwin 111 = .ok (.ireturn, 1) := by decide +kernel
set_option maxRecDepth 20000 in
theorem k_X6_latestTwin (d : Nat) {T : CT} {σ : MS} {a : Nat} {p1 : Nat} {p2 : Int} (ha : OB T a 6) (h_p1 : OB T p1 1) (t_p1 : (T p1).1 = 50) (h_p2 : -2147483648 ≤ p2 ∧ p2 ≤ 2147483647) (hw : WT T σ) : Tn (d + 4) m_X6_latestTwin 0 T σ [(0, .ref a), (1, .ref p1), (2, .int (iI p2))] [] (fun ro T2 σ2 => ∃ v : Int, ro = some (.int (iI v)) ∧ T = T2 ∧ WT T2 σ2 ∧ FrC T [] σ σ2 ∧ (-2147483648 ≤ v ∧ v ≤ 2147483647)) := by
  refine tn_aload_n dX6_latestTwin_0 rfl 0 rfl ?_
  obtain ⟨x1, hx2, hk3, hl4⟩ : ∃ x : Nat, σ.2.1 54 a = (x : Int) ∧ AR T x 3 3 3 := wf_54 hw ha
  refine tn_getR (ci := 6) (i := 2) (n := 54) (x := x1) dX6_latestTwin_1 rfl lay_6 (by decide) fl6_18 ha rfl rfl (hx2) ?_
  refine tn_iconst dX6_latestTwin_4 ?_
  refine tn_callSN (M := m_X6_latestTwin) (pc := 5) (ix := 123) (M' := m_X11_clear) (As := [.ref x1, .int (iI 3)]) (rest := []) dX6_latestTwin_5 ok_X11_clear stt_X11_clear nl6_123 np_X11_clear rfl (Nat.le_of_ble_eq_true rfl) (Nat.le_of_ble_eq_true rfl) rfl (k_X11_clear (d) (T := T) (σ := σ) (x := x1) (n := 3) hk3 (by omega) (by decide) hw ) (fun r5 T7 σ6 gt8 hp => ?_)
  obtain ⟨rfl, rfl, w10, F11⟩ := hp
  clear gt8
  show Tn _ _ 8 T σ6 [(0, .ref a), (1, .ref p1), (2, .int (iI p2))] [] _
  refine tn_iload_n dX6_latestTwin_8 rfl 2 rfl ?_
  refine tn_iconst dX6_latestTwin_9 ?_
  refine tn_isub dX6_latestTwin_10 ?_
  refine tn_any (fun z12 g13 => ?_)
  have g13r : -2147483648 ≤ z12 ∧ z12 ≤ 2147483647 := g13
  refine tn_istore_n (L' := [(3, .int (iI z12)), (0, .ref a), (1, .ref p1), (2, .int (iI p2))]) dX6_latestTwin_11 rfl (by decide) rfl ?_
  refine tn_sub [1, 2, 3, 0] rfl (l_X6_latestTwin_12 (d) (T := T) (σ0 := σ6) (a := a) (rx1 := p1) (c2 := p2) ha h_p1 t_p1 (by omega) w10 (fun i314 σ15 w18 F19 r20 => ?_) (fun i321 σ22 w25 F26 r27 => ?_) _ (z12) σ6 w10 FrC.rfl (by omega) rfl)
  · show Tn _ _ 102 T σ15 [(0, .ref a), (1, .ref p1), (2, .int (iI p2)), (3, .int (iI i314))] [] _
    refine tn_iload_n dX6_latestTwin_102 rfl 3 rfl ?_
    exact tn_iret rfl dX6_latestTwin_103 ⟨_, rfl, rfl, w18, ((FrC.rfl.trans (FrC.sub F11 (by decide))).trans (FrC.sub F19 (by decide))), by omega⟩
  · show Tn _ _ 110 T σ22 [(0, .ref a), (1, .ref p1), (2, .int (iI p2)), (3, .int (iI i321))] [] _
    refine tn_iconst dX6_latestTwin_110 ?_
    exact tn_iret rfl dX6_latestTwin_111 ⟨_, rfl, rfl, w25, ((FrC.rfl.trans (FrC.sub F11 (by decide))).trans (FrC.sub F26 (by decide))), by omega⟩
end
