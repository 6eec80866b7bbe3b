theorem cd_X6_firstMovable : Cond.code yX6_firstMovable cX6_firstMovable 5 (some .int) ∈ pWW := pw5 (List.mem_of_getElem? (i := 97) rfl) rfl
abbrev m_X6_firstMovable : MT := (yX6_firstMovable, cX6_firstMovable, 5, (some .int))
theorem ok_X6_firstMovable : pOk m_X6_firstMovable := ⟨⟨cd_X6_firstMovable, ini_6⟩, by decide +kernel, ⟨by decide +kernel, by decide +kernel⟩, Nat.le_of_ble_eq_true rfl⟩
theorem np_X6_firstMovable : (parseMethodDescriptor yX6_firstMovable.desc).map (fun d => d.parameters.length) = some 3 := by decide +kernel
theorem im_X6_firstMovable : Cond.instanceMethod yX6_firstMovable ∈ pWW := pw5 (List.mem_of_getElem? (i := 96) rfl) rfl
theorem se_X6_firstMovable : Cond.selects RX6 yX6_firstMovable yX6_firstMovable ∈ pWW := pws (List.mem_map.mpr ⟨_, lw_pin 59 rfl, rfl⟩) rfl
theorem ml6_107 : Cond.methodLink RX6 107 yX6_collectWritten ∈ pWW := pw5 (List.mem_of_getElem? (i := 98) rfl) rfl
theorem nl6_111 : (RX6, 111, yX11_isPure, "LineKeeper") ∈ nst_M := List.mem_of_getElem? (i := 34) rfl
theorem ml6_114 : Cond.methodLink RX6 114 yX6_standsStill ∈ pWW := pw5 (List.mem_of_getElem? (i := 105) rfl) rfl
theorem ml6_117 : Cond.methodLink RX6 117 yX1_isHome ∈ pWW := pw5 (List.mem_of_getElem? (i := 110) rfl) rfl
theorem ml6_120 : Cond.methodLink RX6 120 yX6_isOnlyWriter ∈ pWW := pw5 (List.mem_of_getElem? (i := 114) rfl) rfl
theorem dX6_firstMovable_0 : decode cX6_firstMovable 0 = .ok (.aload_n 0, 1) := by decide +kernel
theorem dX6_firstMovable_1 : decode cX6_firstMovable 1 = .ok (.aload_n 1, 1) := by decide +kernel
theorem dX6_firstMovable_2 : decode cX6_firstMovable 2 = .ok (.iload_n 2, 1) := by decide +kernel
theorem dX6_firstMovable_3 : decode cX6_firstMovable 3 = .ok (.iload_n 3, 1) := by decide +kernel
theorem dX6_firstMovable_4 : decode cX6_firstMovable 4 = .ok (.invokevirtual 107, 3) := by decide +kernel
theorem dX6_firstMovable_7 : decode cX6_firstMovable 7 = .ok (.iload_n 2, 1) := by decide +kernel
theorem dX6_firstMovable_8 : decode cX6_firstMovable 8 = .ok (.istore 4, 2) := by decide +kernel
theorem dX6_firstMovable_10 : decode cX6_firstMovable 10 = .ok (.iload 4, 2) := by decide +kernel
theorem dX6_firstMovable_12 : decode cX6_firstMovable 12 = .ok (.iload_n 3, 1) := by decide +kernel
theorem dX6_firstMovable_13 : decode cX6_firstMovable 13 = .ok (.if_icmp .gt 59, 3) := by decide +kernel
theorem dX6_firstMovable_16 : decode cX6_firstMovable 16 = .ok (.aload_n 1, 1) := by decide +kernel
theorem dX6_firstMovable_17 : decode cX6_firstMovable 17 = .ok (.iload 4, 2) := by decide +kernel
theorem dX6_firstMovable_19 : decode cX6_firstMovable 19 = .ok (.iconst 0, 1) := by decide +kernel
theorem dX6_firstMovable_20 : decode cX6_firstMovable 20 = .ok (.invokevirtual 34, 3) := by decide +kernel
theorem dX6_firstMovable_23 : decode cX6_firstMovable 23 = .ok (.invokestatic 111, 3) := by decide +kernel
theorem dX6_firstMovable_26 : decode cX6_firstMovable 26 = .ok (.ifCond .eq 40, 3) := by decide +kernel
theorem dX6_firstMovable_66 : decode cX6_firstMovable 66 = .ok (.iinc 4 1, 3) := by decide +kernel
theorem dX6_firstMovable_69 : decode cX6_firstMovable 69 = .ok (.goto (-59), 3) := by decide +kernel
theorem dX6_firstMovable_29 : decode cX6_firstMovable 29 = .ok (.aload_n 0, 1) := by decide +kernel
theorem dX6_firstMovable_30 : decode cX6_firstMovable 30 = .ok (.aload_n 1, 1) := by decide +kernel
theorem dX6_firstMovable_31 : decode cX6_firstMovable 31 = .ok (.iload 4, 2) := by decide +kernel
theorem dX6_firstMovable_33 : decode cX6_firstMovable 33 = .ok (.invokevirtual 114, 3) := by decide +kernel
theorem dX6_firstMovable_36 : decode cX6_firstMovable 36 = .ok (.ifCond .eq 30, 3) := by decide +kernel
theorem dX6_firstMovable_39 : decode cX6_firstMovable 39 = .ok (.aload_n 1, 1) := by decide +kernel
theorem dX6_firstMovable_40 : decode cX6_firstMovable 40 = .ok (.aload_n 1, 1) := by decide +kernel
theorem dX6_firstMovable_41 : decode cX6_firstMovable 41 = .ok (.iload 4, 2) := by decide +kernel
theorem dX6_firstMovable_43 : decode cX6_firstMovable 43 = .ok (.iconst 1, 1) := by decide +kernel
theorem dX6_firstMovable_44 : decode cX6_firstMovable 44 = .ok (.invokevirtual 34, 3) := by decide +kernel
theorem dX6_firstMovable_47 : decode cX6_firstMovable 47 = .ok (.invokevirtual 117, 3) := by decide +kernel
theorem dX6_firstMovable_50 : decode cX6_firstMovable 50 = .ok (.ifCond .ne 16, 3) := by decide +kernel
theorem dX6_firstMovable_53 : decode cX6_firstMovable 53 = .ok (.aload_n 0, 1) := by decide +kernel
theorem dX6_firstMovable_54 : decode cX6_firstMovable 54 = .ok (.aload_n 1, 1) := by decide +kernel
theorem dX6_firstMovable_55 : decode cX6_firstMovable 55 = .ok (.iload 4, 2) := by decide +kernel
theorem dX6_firstMovable_57 : decode cX6_firstMovable 57 = .ok (.invokevirtual 120, 3) := by decide +kernel
theorem dX6_firstMovable_60 : decode cX6_firstMovable 60 = .ok (.ifCond .eq 6, 3) := by decide +kernel
set_option maxRecDepth 20000 in
theorem l_X6_firstMovable_10 (d : Nat) {T : CT} {σ : MS} {a : Nat} {rx1 : Nat} {c3 : Int} {post : Option Value → CT → MS → Prop} (h_a : OB T a 6) (h_rx1 : OB T rx1 1) (t_rx1 : (T rx1).1 = 50) (r_c3 : -2147483648 ≤ c3 ∧ c3 ≤ 100000) (hw : WT T σ) (hx_63 : ∀ (i4 : Int) , (-2147483648 ≤ i4 ∧ i4 ≤ 2147483647) → Tn (d + 5) m_X6_firstMovable 63 T σ [(0, .ref a), (1, .ref rx1), (3, .int (iI c3)), (4, .int (iI i4))] [] post) (hx_72 : ∀ (i4 : Int) , (-2147483648 ≤ i4 ∧ i4 ≤ 2147483647) → Tn (d + 5) m_X6_firstMovable 72 T σ [(0, .ref a), (1, .ref rx1), (3, .int (iI c3)), (4, .int (iI i4))] [] post) : ∀ (n : Nat) (i4 : Int) , (-2147483648 ≤ i4 ∧ i4 ≤ 2147483647) → (2147483700 - i4).toNat = n → Tn (d + 5) m_X6_firstMovable 10 T σ [(0, .ref a), (1, .ref rx1), (3, .int (iI c3)), (4, .int (iI i4))] [] post := by
  intro n
  induction n using Nat.strongRecOn with
  | _ n ih =>
    intro i4 r_i4 hm
    refine tn_iload dX6_firstMovable_10 3 rfl ?_
    refine tn_iload_n dX6_firstMovable_12 rfl 2 rfl ?_
    refine tn_icmp_gt (tgt := 72) dX6_firstMovable_13 (by decide) ⟨by omega, by omega⟩ ⟨by omega, by omega⟩ (fun h1 => ?_) (fun h1 => ?_)
    · exact tn_sub [0, 1, 2, 3] rfl (hx_72 (i4) (by omega))
    · refine tn_aload_n dX6_firstMovable_16 rfl 1 rfl ?_
      refine tn_iload dX6_firstMovable_17 3 rfl ?_
      refine tn_iconst dX6_firstMovable_19 ?_
      refine tn_callV (M := m_X6_firstMovable) (pc := 20) (ix := 34) (ci := 1) (M' := m_X1_get) (As := [.int (iI i4), .int (iI 0)]) (rest := []) dX6_firstMovable_20 ok_X1_get im_X1_get se_X1_get ml6_34 np_X1_get rfl rfl h_rx1 rfl (Nat.le_of_ble_eq_true rfl) (Nat.le_of_ble_eq_true rfl) rfl (k_X1_get (d + 3) (T := T) (σ := σ) (a := rx1) (k := i4) (c := 0) h_rx1 (by omega) (by decide) hw (by omega)) (fun r2 T4 σ3 gt5 hp => ?_)
      obtain ⟨v7, rfl, rfl, rfl, f6⟩ := hp
      clear gt5
      show Tn _ _ 23 T σ [(0, .ref a), (1, .ref rx1), (3, .int (iI c3)), (4, .int (iI i4))] [.int (iI v7)] _
      refine tn_callSN (M := m_X6_firstMovable) (pc := 23) (ix := 111) (M' := m_X11_isPure) (As := [.int (iI v7)]) (rest := []) dX6_firstMovable_23 ok_X11_isPure stt_X11_isPure nl6_111 np_X11_isPure rfl (Nat.le_of_ble_eq_true rfl) (Nat.le_of_ble_eq_true rfl) rfl (k_X11_isPure (d + 3) (T := T) (σ := σ) (k := v7) (by omega) hw ) (fun r8 T10 σ9 gt11 hp => ?_)
      obtain ⟨v13, rfl, rfl, rfl, f12⟩ := hp
      clear gt11
      show Tn _ _ 26 T σ [(0, .ref a), (1, .ref rx1), (3, .int (iI c3)), (4, .int (iI i4))] [.int (iI v13)] _
      refine tn_if_eq (tgt := 66) dX6_firstMovable_26 (by decide) ⟨by omega, by omega⟩ (fun h14 => ?_) (fun h14 => ?_)
      · refine tn_iinc (q0 := 3) (L' := [(4, .int (iI (i4 + 1))), (0, .ref a), (1, .ref rx1), (3, .int (iI c3))]) dX6_firstMovable_66 rfl (by decide) rfl ?_
        refine tn_goto (tgt := 10) dX6_firstMovable_69 (by decide) ?_
        exact tn_sub [1, 2, 3, 0] rfl (ih _ (by omega) (i4 + 1) (by omega) rfl)
      · refine tn_aload_n dX6_firstMovable_29 rfl 0 rfl ?_
        refine tn_aload_n dX6_firstMovable_30 rfl 1 rfl ?_
        refine tn_iload dX6_firstMovable_31 3 rfl ?_
        refine tn_callV (M := m_X6_firstMovable) (pc := 33) (ix := 114) (ci := 6) (M' := m_X6_standsStill) (As := [.ref rx1, .int (iI i4)]) (rest := []) dX6_firstMovable_33 ok_X6_standsStill im_X6_standsStill se_X6_standsStill ml6_114 np_X6_standsStill rfl rfl h_a rfl (Nat.le_of_ble_eq_true rfl) (Nat.le_of_ble_eq_true rfl) rfl (k_X6_standsStill (d + 1) (T := T) (σ := σ) (a := a) (p1 := rx1) (p2 := i4) h_a h_rx1 t_rx1 (by omega) hw ) (fun r15 T17 σ16 gt18 hp => ?_)
        obtain ⟨v20, rfl, rfl, rfl, f19⟩ := hp
        clear gt18
        show Tn _ _ 36 T σ [(0, .ref a), (1, .ref rx1), (3, .int (iI c3)), (4, .int (iI i4))] [.int (iI v20)] _
        refine tn_if_eq (tgt := 66) dX6_firstMovable_36 (by decide) ⟨by omega, by omega⟩ (fun h21 => ?_) (fun h21 => ?_)
        · refine tn_iinc (q0 := 3) (L' := [(4, .int (iI (i4 + 1))), (0, .ref a), (1, .ref rx1), (3, .int (iI c3))]) dX6_firstMovable_66 rfl (by decide) rfl ?_
          refine tn_goto (tgt := 10) dX6_firstMovable_69 (by decide) ?_
          exact tn_sub [1, 2, 3, 0] rfl (ih _ (by omega) (i4 + 1) (by omega) rfl)
        · refine tn_aload_n dX6_firstMovable_39 rfl 1 rfl ?_
          refine tn_aload_n dX6_firstMovable_40 rfl 1 rfl ?_
          refine tn_iload dX6_firstMovable_41 3 rfl ?_
          refine tn_iconst dX6_firstMovable_43 ?_
          refine tn_callV (M := m_X6_firstMovable) (pc := 44) (ix := 34) (ci := 1) (M' := m_X1_get) (As := [.int (iI i4), .int (iI 1)]) (rest := [.ref rx1]) dX6_firstMovable_44 ok_X1_get im_X1_get se_X1_get ml6_34 np_X1_get rfl rfl h_rx1 rfl (Nat.le_of_ble_eq_true rfl) (Nat.le_of_ble_eq_true rfl) rfl (k_X1_get (d + 3) (T := T) (σ := σ) (a := rx1) (k := i4) (c := 1) h_rx1 (by omega) (by decide) hw (by omega)) (fun r22 T24 σ23 gt25 hp => ?_)
          obtain ⟨v27, rfl, rfl, rfl, f26⟩ := hp
          clear gt25
          show Tn _ _ 47 T σ [(0, .ref a), (1, .ref rx1), (3, .int (iI c3)), (4, .int (iI i4))] [.int (iI v27), .ref rx1] _
          refine tn_callV (M := m_X6_firstMovable) (pc := 47) (ix := 117) (ci := 1) (M' := m_X1_isHome) (As := [.int (iI v27)]) (rest := []) dX6_firstMovable_47 ok_X1_isHome im_X1_isHome se_X1_isHome ml6_117 np_X1_isHome rfl rfl h_rx1 rfl (Nat.le_of_ble_eq_true rfl) (Nat.le_of_ble_eq_true rfl) rfl (k_X1_isHome (d + 1) (T := T) (σ := σ) (a := rx1) (r := v27) h_rx1 (by omega) hw ) (fun r28 T30 σ29 gt31 hp => ?_)
          obtain ⟨v33, rfl, rfl, rfl, f32⟩ := hp
          clear gt31
          show Tn _ _ 50 T σ [(0, .ref a), (1, .ref rx1), (3, .int (iI c3)), (4, .int (iI i4))] [.int (iI v33)] _
          refine tn_if_ne (tgt := 66) dX6_firstMovable_50 (by decide) ⟨by omega, by omega⟩ (fun h34 => ?_) (fun h34 => ?_)
          · refine tn_iinc (q0 := 3) (L' := [(4, .int (iI (i4 + 1))), (0, .ref a), (1, .ref rx1), (3, .int (iI c3))]) dX6_firstMovable_66 rfl (by decide) rfl ?_
            refine tn_goto (tgt := 10) dX6_firstMovable_69 (by decide) ?_
            exact tn_sub [1, 2, 3, 0] rfl (ih _ (by omega) (i4 + 1) (by omega) rfl)
          · refine tn_aload_n dX6_firstMovable_53 rfl 0 rfl ?_
            refine tn_aload_n dX6_firstMovable_54 rfl 1 rfl ?_
            refine tn_iload dX6_firstMovable_55 3 rfl ?_
            refine tn_callV (M := m_X6_firstMovable) (pc := 57) (ix := 120) (ci := 6) (M' := m_X6_isOnlyWriter) (As := [.ref rx1, .int (iI i4)]) (rest := []) dX6_firstMovable_57 ok_X6_isOnlyWriter im_X6_isOnlyWriter se_X6_isOnlyWriter ml6_120 np_X6_isOnlyWriter rfl rfl h_a rfl (Nat.le_of_ble_eq_true rfl) (Nat.le_of_ble_eq_true rfl) rfl (k_X6_isOnlyWriter (d + 1) (T := T) (σ := σ) (a := a) (p1 := rx1) (p2 := i4) h_a h_rx1 t_rx1 (by omega) hw ) (fun r35 T37 σ36 gt38 hp => ?_)
            obtain ⟨v40, rfl, rfl, rfl, f39⟩ := hp
            clear gt38
            show Tn _ _ 60 T σ [(0, .ref a), (1, .ref rx1), (3, .int (iI c3)), (4, .int (iI i4))] [.int (iI v40)] _
            refine tn_if_eq (tgt := 66) dX6_firstMovable_60 (by decide) ⟨by omega, by omega⟩ (fun h41 => ?_) (fun h41 => ?_)
            · refine tn_iinc (q0 := 3) (L' := [(4, .int (iI (i4 + 1))), (0, .ref a), (1, .ref rx1), (3, .int (iI c3))]) dX6_firstMovable_66 rfl (by decide) rfl ?_
              refine tn_goto (tgt := 10) dX6_firstMovable_69 (by decide) ?_
              exact tn_sub [1, 2, 3, 0] rfl (ih _ (by omega) (i4 + 1) (by omega) rfl)
            · exact tn_sub [0, 1, 2, 3] rfl (hx_63 (i4) (by omega))
theorem dX6_firstMovable_63 : decode cX6_firstMovable 63 = .ok (.iload 4, 2) := by decide +kernel
theorem dX6_firstMovable_65 : decode cX6_firstMovable 65 = .ok (.ireturn, 1) := by decide +kernel
theorem dX6_firstMovable_72 : decode cX6_firstMovable 72 = .ok (.iconst (-1), 1) := by decide +kernel
theorem dX6_firstMovable_73 : decode cX6_firstMovable 73 = .ok (.ireturn, 1) := by decide +kernel
set_option maxRecDepth 20000 in
theorem k_X6_firstMovable (d : Nat) {T : CT} {σ : MS} {a : Nat} {p1 : Nat} {p2 : Int} {p3 : Int} (ha : OB T a 6) (h_p1 : OB T p1 1) (t_p1 : (T p1).1 = 50) (h_p2 : -2147483648 ≤ p2 ∧ p2 ≤ 2147483647) (h_p3 : -2147483648 ≤ p3 ∧ p3 ≤ 2147483647) (hw : WT T σ) (ht : p3 ≤ 100000) : Tn (d + 5) m_X6_firstMovable 0 T σ [(0, .ref a), (1, .ref p1), (2, .int (iI p2)), (3, .int (iI p3))] [] (fun ro T2 σ2 => ∃ v : Int, ro = some (.int (iI v)) ∧ T = T2 ∧ WT T2 σ2 ∧ FrC T [] σ σ2 ∧ (-2147483648 ≤ v ∧ v ≤ 2147483647)) := by
  refine tn_aload_n dX6_firstMovable_0 rfl 0 rfl ?_
  refine tn_aload_n dX6_firstMovable_1 rfl 1 rfl ?_
  refine tn_iload_n dX6_firstMovable_2 rfl 2 rfl ?_
  refine tn_iload_n dX6_firstMovable_3 rfl 3 rfl ?_
  refine tn_callV (M := m_X6_firstMovable) (pc := 4) (ix := 107) (ci := 6) (M' := m_X6_collectWritten) (As := [.ref p1, .int (iI p2), .int (iI p3)]) (rest := []) dX6_firstMovable_4 ok_X6_collectWritten im_X6_collectWritten se_X6_collectWritten ml6_107 np_X6_collectWritten rfl rfl ha rfl (Nat.le_of_ble_eq_true rfl) (Nat.le_of_ble_eq_true rfl) rfl (k_X6_collectWritten (d) (T := T) (σ := σ) (a := a) (p1 := p1) (p2 := p2) (p3 := p3) ha h_p1 t_p1 (by omega) (by omega) hw (by omega)) (fun r1 T3 σ2 gt4 hp => ?_)
  obtain ⟨rfl, rfl, w6, F7⟩ := hp
  clear gt4
  show Tn _ _ 7 T σ2 [(0, .ref a), (1, .ref p1), (2, .int (iI p2)), (3, .int (iI p3))] [] _
  refine tn_iload_n dX6_firstMovable_7 rfl 2 rfl ?_
  refine tn_istore (L' := [(4, .int (iI p2)), (0, .ref a), (1, .ref p1), (2, .int (iI p2)), (3, .int (iI p3))]) dX6_firstMovable_8 (by decide) rfl ?_
  refine tn_sub [1, 2, 4, 0] rfl (l_X6_firstMovable_10 (d) (T := T) (σ := σ2) (a := a) (rx1 := p1) (c3 := p3) ha h_p1 t_p1 (by omega) w6 (fun i48 r14 => ?_) (fun i415 r21 => ?_) _ (p2) (by omega) rfl)
  · show Tn _ _ 63 T σ2 [(0, .ref a), (1, .ref p1), (3, .int (iI p3)), (4, .int (iI i48))] [] _
    refine tn_iload dX6_firstMovable_63 3 rfl ?_
    exact tn_iret rfl dX6_firstMovable_65 ⟨_, rfl, rfl, w6, (FrC.rfl.trans (FrC.sub F7 (by decide))), by omega⟩
  · show Tn _ _ 72 T σ2 [(0, .ref a), (1, .ref p1), (3, .int (iI p3)), (4, .int (iI i415))] [] _
    refine tn_iconst dX6_firstMovable_72 ?_
    exact tn_iret rfl dX6_firstMovable_73 ⟨_, rfl, rfl, w6, (FrC.rfl.trans (FrC.sub F7 (by decide))), by omega⟩
