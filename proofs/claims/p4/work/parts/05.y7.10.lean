theorem cd_X2_lastUnread : Cond.code yX2_lastUnread cX2_lastUnread 3 (some .int) ∈ pWW := pw5 (List.mem_of_getElem? (i := 62) rfl) rfl
abbrev m_X2_lastUnread : MT := (yX2_lastUnread, cX2_lastUnread, 3, (some .int))
theorem ok_X2_lastUnread : pOk m_X2_lastUnread := ⟨⟨cd_X2_lastUnread, ini_2⟩, by decide +kernel, ⟨by decide +kernel, by decide +kernel⟩, Nat.le_of_ble_eq_true rfl⟩
theorem np_X2_lastUnread : (parseMethodDescriptor yX2_lastUnread.desc).map (fun d => d.parameters.length) = some 1 := by decide +kernel
theorem im_X2_lastUnread : Cond.instanceMethod yX2_lastUnread ∈ pWW := pw5 (List.mem_of_getElem? (i := 61) rfl) rfl
theorem se_X2_lastUnread : Cond.selects RX2 yX2_lastUnread yX2_lastUnread ∈ pWW := pws (List.mem_map.mpr ⟨_, lw_pin 54 rfl, rfl⟩) rfl
theorem nl2_60 : (RX2, 60, yX11_isPure, "LineKeeper") ∈ nst_M := List.mem_of_getElem? (i := 30) rfl
theorem ml2_63 : Cond.methodLink RX2 63 yX3_lives ∈ pWW := pw5 (List.mem_of_getElem? (i := 64) rfl) rfl
theorem dX2_lastUnread_0 : decode cX2_lastUnread 0 = .ok (.aload_n 1, 1) := by decide +kernel
theorem dX2_lastUnread_1 : decode cX2_lastUnread 1 = .ok (.getfield 45, 3) := by decide +kernel
theorem dX2_lastUnread_4 : decode cX2_lastUnread 4 = .ok (.iconst 1, 1) := by decide +kernel
theorem dX2_lastUnread_5 : decode cX2_lastUnread 5 = .ok (.isub, 1) := by decide +kernel
theorem dX2_lastUnread_6 : decode cX2_lastUnread 6 = .ok (.istore_n 2, 1) := by decide +kernel
theorem dX2_lastUnread_7 : decode cX2_lastUnread 7 = .ok (.iload_n 2, 1) := by decide +kernel
theorem dX2_lastUnread_8 : decode cX2_lastUnread 8 = .ok (.ifCond .lt 42, 3) := by decide +kernel
theorem dX2_lastUnread_11 : decode cX2_lastUnread 11 = .ok (.aload_n 1, 1) := by decide +kernel
theorem dX2_lastUnread_12 : decode cX2_lastUnread 12 = .ok (.iload_n 2, 1) := by decide +kernel
theorem dX2_lastUnread_13 : decode cX2_lastUnread 13 = .ok (.iconst 0, 1) := by decide +kernel
theorem dX2_lastUnread_14 : decode cX2_lastUnread 14 = .ok (.invokevirtual 53, 3) := by decide +kernel
theorem dX2_lastUnread_17 : decode cX2_lastUnread 17 = .ok (.invokestatic 60, 3) := by decide +kernel
theorem dX2_lastUnread_20 : decode cX2_lastUnread 20 = .ok (.ifCond .eq 24, 3) := by decide +kernel
theorem dX2_lastUnread_44 : decode cX2_lastUnread 44 = .ok (.iinc 2 (-1), 3) := by decide +kernel
theorem dX2_lastUnread_47 : decode cX2_lastUnread 47 = .ok (.goto (-40), 3) := by decide +kernel
theorem dX2_lastUnread_23 : decode cX2_lastUnread 23 = .ok (.aload_n 0, 1) := by decide +kernel
theorem dX2_lastUnread_24 : decode cX2_lastUnread 24 = .ok (.getfield 9, 3) := by decide +kernel
theorem dX2_lastUnread_27 : decode cX2_lastUnread 27 = .ok (.iload_n 2, 1) := by decide +kernel
theorem dX2_lastUnread_28 : decode cX2_lastUnread 28 = .ok (.iconst 1, 1) := by decide +kernel
theorem dX2_lastUnread_29 : decode cX2_lastUnread 29 = .ok (.iadd, 1) := by decide +kernel
theorem dX2_lastUnread_30 : decode cX2_lastUnread 30 = .ok (.aload_n 1, 1) := by decide +kernel
theorem dX2_lastUnread_31 : decode cX2_lastUnread 31 = .ok (.iload_n 2, 1) := by decide +kernel
theorem dX2_lastUnread_32 : decode cX2_lastUnread 32 = .ok (.iconst 1, 1) := by decide +kernel
theorem dX2_lastUnread_33 : decode cX2_lastUnread 33 = .ok (.invokevirtual 53, 3) := by decide +kernel
theorem dX2_lastUnread_36 : decode cX2_lastUnread 36 = .ok (.invokevirtual 63, 3) := by decide +kernel
theorem dX2_lastUnread_39 : decode cX2_lastUnread 39 = .ok (.ifCond .ne 5, 3) := by decide +kernel
set_option maxRecDepth 20000 in
theorem l_X2_lastUnread_7 (d : Nat) {T : CT} {σ : MS} {a : Nat} {rx1 : Nat} {post : Option Value → CT → MS → Prop} (h_a : OB T a 2) (h_rx1 : OB T rx1 1) (t_rx1 : (T rx1).1 = 50) (hw : WT T σ) (hx_42 : ∀ (i2 : Int) , (-1 ≤ i2 ∧ i2 ≤ 199) → Tn (d + 4) m_X2_lastUnread 42 T σ [(0, .ref a), (1, .ref rx1), (2, .int (iI i2))] [] post) (hx_50 : ∀ (i2 : Int) , (-1 ≤ i2 ∧ i2 ≤ 199) → Tn (d + 4) m_X2_lastUnread 50 T σ [(0, .ref a), (1, .ref rx1), (2, .int (iI i2))] [] post) : ∀ (n : Nat) (i2 : Int) , (-1 ≤ i2 ∧ i2 ≤ 199) → (i2 + 20).toNat = n → Tn (d + 4) m_X2_lastUnread 7 T σ [(0, .ref a), (1, .ref rx1), (2, .int (iI i2))] [] post := by
  intro n
  induction n using Nat.strongRecOn with
  | _ n ih =>
    intro i2 r_i2 hm
    refine tn_iload_n dX2_lastUnread_7 rfl 2 rfl ?_
    refine tn_if_lt (tgt := 50) dX2_lastUnread_8 (by decide) ⟨by omega, by omega⟩ (fun h1 => ?_) (fun h1 => ?_)
    · exact tn_sub [0, 1, 2] rfl (hx_50 (i2) (by omega))
    · refine tn_aload_n dX2_lastUnread_11 rfl 1 rfl ?_
      refine tn_iload_n dX2_lastUnread_12 rfl 2 rfl ?_
      refine tn_iconst dX2_lastUnread_13 ?_
      refine tn_callV (M := m_X2_lastUnread) (pc := 14) (ix := 53) (ci := 1) (M' := m_X1_get) (As := [.int (iI i2), .int (iI 0)]) (rest := []) dX2_lastUnread_14 ok_X1_get im_X1_get se_X1_get ml2_53 np_X1_get rfl rfl h_rx1 rfl (Nat.le_of_ble_eq_true rfl) (Nat.le_of_ble_eq_true rfl) rfl (k_X1_get (d + 2) (T := T) (σ := σ) (a := rx1) (k := i2) (c := 0) h_rx1 (by omega) (by decide) hw (by omega)) (fun r2 T4 σ3 gt5 hp => ?_)
      obtain ⟨v7, rfl, rfl, rfl, f6⟩ := hp
      clear gt5
      show Tn _ _ 17 T σ [(0, .ref a), (1, .ref rx1), (2, .int (iI i2))] [.int (iI v7)] _
      refine tn_callSN (M := m_X2_lastUnread) (pc := 17) (ix := 60) (M' := m_X11_isPure) (As := [.int (iI v7)]) (rest := []) dX2_lastUnread_17 ok_X11_isPure stt_X11_isPure nl2_60 np_X11_isPure rfl (Nat.le_of_ble_eq_true rfl) (Nat.le_of_ble_eq_true rfl) rfl (k_X11_isPure (d + 2) (T := T) (σ := σ) (k := v7) (by omega) hw ) (fun r8 T10 σ9 gt11 hp => ?_)
      obtain ⟨v13, rfl, rfl, rfl, f12⟩ := hp
      clear gt11
      show Tn _ _ 20 T σ [(0, .ref a), (1, .ref rx1), (2, .int (iI i2))] [.int (iI v13)] _
      refine tn_if_eq (tgt := 44) dX2_lastUnread_20 (by decide) ⟨by omega, by omega⟩ (fun h14 => ?_) (fun h14 => ?_)
      · refine tn_iinc (q0 := 2) (L' := [(2, .int (iI (i2 + (-1)))), (0, .ref a), (1, .ref rx1)]) dX2_lastUnread_44 rfl (by decide) rfl ?_
        refine tn_goto (tgt := 7) dX2_lastUnread_47 (by decide) ?_
        exact tn_sub [1, 2, 0] rfl (ih _ (by omega) (i2 + (-1)) (by omega) rfl)
      · refine tn_aload_n dX2_lastUnread_23 rfl 0 rfl ?_
        obtain ⟨x15, hx16, hk17⟩ : ∃ x : Nat, σ.2.1 17 a = (x : Int) ∧ (T x).1 = 33 := wf_17 hw h_a
        have hk17o : OB T x15 3 := ⟨by omega, by rw [hk17]; rfl, by omega⟩
        refine tn_getR (ci := 2) (i := 0) (n := 17) (x := x15) dX2_lastUnread_24 rfl lay_2 (by decide) fl2_9 h_a rfl rfl (hx16) ?_
        refine tn_iload_n dX2_lastUnread_27 rfl 2 rfl ?_
        refine tn_iconst dX2_lastUnread_28 ?_
        refine tn_iadd dX2_lastUnread_29 ?_
        refine tn_aload_n dX2_lastUnread_30 rfl 1 rfl ?_
        refine tn_iload_n dX2_lastUnread_31 rfl 2 rfl ?_
        refine tn_iconst dX2_lastUnread_32 ?_
        refine tn_callV (M := m_X2_lastUnread) (pc := 33) (ix := 53) (ci := 1) (M' := m_X1_get) (As := [.int (iI i2), .int (iI 1)]) (rest := [.int (iI (i2 + 1)), .ref x15]) dX2_lastUnread_33 ok_X1_get im_X1_get se_X1_get ml2_53 np_X1_get rfl rfl h_rx1 rfl (Nat.le_of_ble_eq_true rfl) (Nat.le_of_ble_eq_true rfl) rfl (k_X1_get (d + 2) (T := T) (σ := σ) (a := rx1) (k := i2) (c := 1) h_rx1 (by omega) (by decide) hw (by omega)) (fun r19 T21 σ20 gt22 hp => ?_)
        obtain ⟨v24, rfl, rfl, rfl, f23⟩ := hp
        clear gt22
        show Tn _ _ 36 T σ [(0, .ref a), (1, .ref rx1), (2, .int (iI i2))] [.int (iI v24), .int (iI (i2 + 1)), .ref x15] _
        refine tn_callV (M := m_X2_lastUnread) (pc := 36) (ix := 63) (ci := 3) (M' := m_X3_lives) (As := [.int (iI (i2 + 1)), .int (iI v24)]) (rest := []) dX2_lastUnread_36 ok_X3_lives im_X3_lives se_X3_lives ml2_63 np_X3_lives rfl rfl hk17o rfl (Nat.le_of_ble_eq_true rfl) (Nat.le_of_ble_eq_true rfl) rfl (k_X3_lives (d) (T := T) (σ := σ) (a := x15) (p1 := i2 + 1) (p2 := v24) hk17o (by omega) (by omega) hw ) (fun r25 T27 σ26 gt28 hp => ?_)
        obtain ⟨v30, rfl, rfl, rfl, f29⟩ := hp
        clear gt28
        show Tn _ _ 39 T σ [(0, .ref a), (1, .ref rx1), (2, .int (iI i2))] [.int (iI v30)] _
        refine tn_if_ne (tgt := 44) dX2_lastUnread_39 (by decide) ⟨by omega, by omega⟩ (fun h31 => ?_) (fun h31 => ?_)
        · refine tn_iinc (q0 := 2) (L' := [(2, .int (iI (i2 + (-1)))), (0, .ref a), (1, .ref rx1)]) dX2_lastUnread_44 rfl (by decide) rfl ?_
          refine tn_goto (tgt := 7) dX2_lastUnread_47 (by decide) ?_
          exact tn_sub [1, 2, 0] rfl (ih _ (by omega) (i2 + (-1)) (by omega) rfl)
        · exact tn_sub [0, 1, 2] rfl (hx_42 (i2) (by omega))
theorem dX2_lastUnread_42 : decode cX2_lastUnread 42 = .ok (.iload_n 2, 1) := by decide +kernel
theorem dX2_lastUnread_43 : decode cX2_lastUnread 43 = .ok (.ireturn, 1) := by decide +kernel
theorem dX2_lastUnread_50 : decode cX2_lastUnread 50 = .ok (.iconst (-1), 1) := by decide +kernel
theorem dX2_lastUnread_51 : decode cX2_lastUnread 51 = .ok (.ireturn, 1) := by decide +kernel
set_option maxRecDepth 20000 in
theorem k_X2_lastUnread (d : Nat) {T : CT} {σ : MS} {a : Nat} {p1 : Nat} (ha : OB T a 2) (h_p1 : OB T p1 1) (t_p1 : (T p1).1 = 50) (hw : WT T σ) : Tn (d + 4) m_X2_lastUnread 0 T σ [(0, .ref a), (1, .ref p1)] [] (fun ro T2 σ2 => ∃ v : Int, ro = some (.int (iI v)) ∧ T = T2 ∧ σ = σ2 ∧ (-2147483648 ≤ v ∧ v ≤ 2147483647)) := by
  refine tn_aload_n dX2_lastUnread_0 rfl 1 rfl ?_
  refine tn_getI (ci := 1) (i := 1) (n := 6) (t := σ.2.1 6 p1) dX2_lastUnread_1 rfl lay_1 (by decide) fl2_45 h_p1 rfl rfl (rfl) ?_
  have g1 : ((0 : Int) ≤ σ.2.1 6 p1 ∧ σ.2.1 6 p1 ≤ 5000) ∧ ((T p1).1 = 50 → σ.2.1 6 p1 ≤ 200) := wf_6 hw h_p1
  have g1x := g1.2
  replace g1 := g1.1
  have g1x := g1x t_p1
  refine tn_iconst dX2_lastUnread_4 ?_
  refine tn_isub dX2_lastUnread_5 ?_
  refine tn_istore_n (L' := [(2, .int (iI ((σ.2.1 6 p1) - 1))), (0, .ref a), (1, .ref p1)]) dX2_lastUnread_6 rfl (by decide) rfl ?_
  refine tn_sub [1, 2, 0] rfl (l_X2_lastUnread_7 (d) (T := T) (σ := σ) (a := a) (rx1 := p1) ha h_p1 t_p1 hw (fun i22 r8 => ?_) (fun i29 r15 => ?_) _ ((σ.2.1 6 p1) - 1) (by omega) rfl)
  · show Tn _ _ 42 T σ [(0, .ref a), (1, .ref p1), (2, .int (iI i22))] [] _
    refine tn_iload_n dX2_lastUnread_42 rfl 2 rfl ?_
    exact tn_iret rfl dX2_lastUnread_43 ⟨_, rfl, rfl, rfl, by omega⟩
  · show Tn _ _ 50 T σ [(0, .ref a), (1, .ref p1), (2, .int (iI i29))] [] _
    refine tn_iconst dX2_lastUnread_50 ?_
    exact tn_iret rfl dX2_lastUnread_51 ⟨_, rfl, rfl, rfl, by omega⟩
