theorem cd_X6_collectWritten : Cond.code yX6_collectWritten cX6_collectWritten 5 none ∈ pWW := pw5 (List.mem_of_getElem? (i := 101) rfl) rfl
abbrev m_X6_collectWritten : MT := (yX6_collectWritten, cX6_collectWritten, 5, none)
theorem ok_X6_collectWritten : pOk m_X6_collectWritten := ⟨⟨cd_X6_collectWritten, ini_6⟩, by decide +kernel, ⟨by decide +kernel, by decide +kernel⟩, Nat.le_of_ble_eq_true rfl⟩
theorem np_X6_collectWritten : (parseMethodDescriptor yX6_collectWritten.desc).map (fun d => d.parameters.length) = some 3 := by decide +kernel
theorem im_X6_collectWritten : Cond.instanceMethod yX6_collectWritten ∈ pWW := pw5 (List.mem_of_getElem? (i := 100) rfl) rfl
theorem se_X6_collectWritten : Cond.selects RX6 yX6_collectWritten yX6_collectWritten ∈ pWW := pws (List.mem_map.mpr ⟨_, lw_pin 60 rfl, rfl⟩) rfl
theorem fl6_18 : Cond.fieldLink RX6 18 (TX6 2).1 (TX6 2).2.1 (TX6 2).2.2.1 ∈ pWW := pw2 (List.mem_of_getElem? (i := 37) rfl) rfl
theorem nl6_123 : (RX6, 123, yX11_clear, "LineKeeper") ∈ nst_M := List.mem_of_getElem? (i := 32) rfl
theorem nl6_127 : (RX6, 127, yX11_include, "LineKeeper") ∈ nst_M := List.mem_of_getElem? (i := 33) rfl
theorem dX6_collectWritten_0 : decode cX6_collectWritten 0 = .ok (.aload_n 0, 1) := by decide +kernel
theorem dX6_collectWritten_1 : decode cX6_collectWritten 1 = .ok (.getfield 18, 3) := by decide +kernel
theorem dX6_collectWritten_4 : decode cX6_collectWritten 4 = .ok (.iconst 3, 1) := by decide +kernel
theorem dX6_collectWritten_5 : decode cX6_collectWritten 5 = .ok (.invokestatic 123, 3) := by decide +kernel
theorem dX6_collectWritten_8 : decode cX6_collectWritten 8 = .ok (.iload_n 2, 1) := by decide +kernel
theorem dX6_collectWritten_9 : decode cX6_collectWritten 9 = .ok (.istore 4, 2) := by decide +kernel
theorem dX6_collectWritten_11 : decode cX6_collectWritten 11 = .ok (.iload 4, 2) := by decide +kernel
theorem dX6_collectWritten_13 : decode cX6_collectWritten 13 = .ok (.iload_n 3, 1) := by decide +kernel
theorem dX6_collectWritten_14 : decode cX6_collectWritten 14 = .ok (.if_icmp .gt 23, 3) := by decide +kernel
theorem dX6_collectWritten_17 : decode cX6_collectWritten 17 = .ok (.aload_n 0, 1) := by decide +kernel
theorem dX6_collectWritten_18 : decode cX6_collectWritten 18 = .ok (.getfield 18, 3) := by decide +kernel
theorem dX6_collectWritten_21 : decode cX6_collectWritten 21 = .ok (.iconst 0, 1) := by decide +kernel
theorem dX6_collectWritten_22 : decode cX6_collectWritten 22 = .ok (.aload_n 1, 1) := by decide +kernel
theorem dX6_collectWritten_23 : decode cX6_collectWritten 23 = .ok (.iload 4, 2) := by decide +kernel
theorem dX6_collectWritten_25 : decode cX6_collectWritten 25 = .ok (.invokevirtual 84, 3) := by decide +kernel
theorem dX6_collectWritten_28 : decode cX6_collectWritten 28 = .ok (.invokestatic 127, 3) := by decide +kernel
theorem dX6_collectWritten_31 : decode cX6_collectWritten 31 = .ok (.iinc 4 1, 3) := by decide +kernel
theorem dX6_collectWritten_34 : decode cX6_collectWritten 34 = .ok (.goto (-23), 3) := by decide +kernel
set_option maxRecDepth 20000 in
theorem l_X6_collectWritten_11 (d : Nat) {T : CT} {σ0 : MS} {a : Nat} {rx1 : Nat} {c3 : Int} {post : Option Value → CT → MS → Prop} (h_a : OB T a 6) (h_rx1 : OB T rx1 1) (t_rx1 : (T rx1).1 = 50) (r_c3 : -2147483648 ≤ c3 ∧ c3 ≤ 100000) (hw0 : WT T σ0) (hx_37 : ∀ (i4 : Int) (σ : MS) , (WT T σ) → (FrC T [] σ0 σ) → (-2147483648 ≤ i4 ∧ i4 ≤ 2147483647) → Tn (d + 4) m_X6_collectWritten 37 T σ [(0, .ref a), (1, .ref rx1), (3, .int (iI c3)), (4, .int (iI i4))] [] post) : ∀ (n : Nat) (i4 : Int) (σ : MS) , (WT T σ) → (FrC T [] σ0 σ) → (-2147483648 ≤ i4 ∧ i4 ≤ 2147483647) → (2147483700 - i4).toNat = n → Tn (d + 4) m_X6_collectWritten 11 T σ [(0, .ref a), (1, .ref rx1), (3, .int (iI c3)), (4, .int (iI i4))] [] post := by
  intro n
  induction n using Nat.strongRecOn with
  | _ n ih =>
    intro i4 σ hw hF r_i4 hm
    refine tn_iload dX6_collectWritten_11 3 rfl ?_
    refine tn_iload_n dX6_collectWritten_13 rfl 2 rfl ?_
    refine tn_icmp_gt (tgt := 37) dX6_collectWritten_14 (by decide) ⟨by omega, by omega⟩ ⟨by omega, by omega⟩ (fun h1 => ?_) (fun h1 => ?_)
    · exact tn_sub [0, 1, 2, 3] rfl (hx_37 (i4) σ hw (FrC.rfl.trans (FrC.sub hF (by decide))) (by omega))
    · refine tn_aload_n dX6_collectWritten_17 rfl 0 rfl ?_
      obtain ⟨x2, hx3, hk4, hl5⟩ : ∃ x : Nat, σ0.2.1 54 a = (x : Int) ∧ AR T x 3 3 3 := wf_54 hw0 h_a
      refine tn_getR (ci := 6) (i := 2) (n := 54) (x := x2) dX6_collectWritten_18 rfl lay_6 (by decide) fl6_18 h_a rfl rfl (rc_F hF (Or.inl (by decide)) (by decide) (hx3)) ?_
      refine tn_iconst dX6_collectWritten_21 ?_
      refine tn_aload_n dX6_collectWritten_22 rfl 1 rfl ?_
      refine tn_iload dX6_collectWritten_23 3 rfl ?_
      refine tn_callV (M := m_X6_collectWritten) (pc := 25) (ix := 84) (ci := 1) (M' := m_X1_writtenBy) (As := [.int (iI i4)]) (rest := [.int (iI 0), .ref x2]) dX6_collectWritten_25 ok_X1_writtenBy im_X1_writtenBy se_X1_writtenBy ml6_84 np_X1_writtenBy rfl rfl h_rx1 rfl (Nat.le_of_ble_eq_true rfl) (Nat.le_of_ble_eq_true rfl) rfl (k_X1_writtenBy (d + 1) (T := T) (σ := σ) (a := rx1) (k := i4) h_rx1 (by omega) hw ) (fun r6 T8 σ7 gt9 hp => ?_)
      obtain ⟨v11, rfl, rfl, rfl, f10⟩ := hp
      clear gt9
      show Tn _ _ 28 T σ [(0, .ref a), (1, .ref rx1), (3, .int (iI c3)), (4, .int (iI i4))] [.int (iI v11), .int (iI 0), .ref x2] _
      refine tn_callSN (M := m_X6_collectWritten) (pc := 28) (ix := 127) (M' := m_X11_include) (As := [.ref x2, .int (iI 0), .int (iI v11)]) (rest := []) dX6_collectWritten_28 ok_X11_include stt_X11_include nl6_127 np_X11_include rfl (Nat.le_of_ble_eq_true rfl) (Nat.le_of_ble_eq_true rfl) rfl (k_X11_include (d + 1) (T := T) (σ := σ) (x := x2) (k := 0) (r := v11) hk4 (by omega) (by decide) (by omega) hw ) (fun r12 T14 σ13 gt15 hp => ?_)
      obtain ⟨rfl, rfl, w17, F18⟩ := hp
      clear gt15
      show Tn _ _ 31 T σ13 [(0, .ref a), (1, .ref rx1), (3, .int (iI c3)), (4, .int (iI i4))] [] _
      refine tn_iinc (q0 := 3) (L' := [(4, .int (iI (i4 + 1))), (0, .ref a), (1, .ref rx1), (3, .int (iI c3))]) dX6_collectWritten_31 rfl (by decide) rfl ?_
      refine tn_goto (tgt := 11) dX6_collectWritten_34 (by decide) ?_
      exact tn_sub [1, 2, 3, 0] rfl (ih _ (by omega) (i4 + 1) σ13 w17 ((FrC.rfl.trans (FrC.sub hF (by decide))).trans (FrC.sub F18 (by decide))) (by omega) rfl)
theorem dX6_collectWritten_37 : decode cX6_collectWritten 37 = .ok (.return_, 1) := by decide +kernel
set_option maxRecDepth 20000 in
theorem k_X6_collectWritten (d : Nat) {T : CT} {σ : MS} {a : Nat} {p1 : Nat} {p2 : Int} {p3 : Int} (ha : OB T a 6) (h_p1 : OB T p1 1) (t_p1 : (T p1).1 = 50) (h_p2 : -2147483648 ≤ p2 ∧ p2 ≤ 2147483647) (h_p3 : -2147483648 ≤ p3 ∧ p3 ≤ 2147483647) (hw : WT T σ) (ht : p3 ≤ 100000) : Tn (d + 4) m_X6_collectWritten 0 T σ [(0, .ref a), (1, .ref p1), (2, .int (iI p2)), (3, .int (iI p3))] [] (fun ro T2 σ2 => ro = none ∧ T = T2 ∧ WT T2 σ2 ∧ FrC T [] σ σ2) := by
  refine tn_aload_n dX6_collectWritten_0 rfl 0 rfl ?_
  obtain ⟨x1, hx2, hk3, hl4⟩ : ∃ x : Nat, σ.2.1 54 a = (x : Int) ∧ AR T x 3 3 3 := wf_54 hw ha
  refine tn_getR (ci := 6) (i := 2) (n := 54) (x := x1) dX6_collectWritten_1 rfl lay_6 (by decide) fl6_18 ha rfl rfl (hx2) ?_
  refine tn_iconst dX6_collectWritten_4 ?_
  refine tn_callSN (M := m_X6_collectWritten) (pc := 5) (ix := 123) (M' := m_X11_clear) (As := [.ref x1, .int (iI 3)]) (rest := []) dX6_collectWritten_5 ok_X11_clear stt_X11_clear nl6_123 np_X11_clear rfl (Nat.le_of_ble_eq_true rfl) (Nat.le_of_ble_eq_true rfl) rfl (k_X11_clear (d) (T := T) (σ := σ) (x := x1) (n := 3) hk3 (by omega) (by decide) hw ) (fun r5 T7 σ6 gt8 hp => ?_)
  obtain ⟨rfl, rfl, w10, F11⟩ := hp
  clear gt8
  show Tn _ _ 8 T σ6 [(0, .ref a), (1, .ref p1), (2, .int (iI p2)), (3, .int (iI p3))] [] _
  refine tn_iload_n dX6_collectWritten_8 rfl 2 rfl ?_
  refine tn_istore (L' := [(4, .int (iI p2)), (0, .ref a), (1, .ref p1), (2, .int (iI p2)), (3, .int (iI p3))]) dX6_collectWritten_9 (by decide) rfl ?_
  refine tn_sub [1, 2, 4, 0] rfl (l_X6_collectWritten_11 (d) (T := T) (σ0 := σ6) (a := a) (rx1 := p1) (c3 := p3) ha h_p1 t_p1 (by omega) w10 (fun i412 σ13 w16 F17 r18 => ?_) _ (p2) σ6 w10 FrC.rfl (by omega) rfl)
  show Tn _ _ 37 T σ13 [(0, .ref a), (1, .ref p1), (3, .int (iI p3)), (4, .int (iI i412))] [] _
  exact tn_vret rfl dX6_collectWritten_37 ⟨rfl, rfl, w16, ((FrC.rfl.trans (FrC.sub F11 (by decide))).trans (FrC.sub F17 (by decide)))⟩
