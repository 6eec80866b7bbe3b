theorem cd_X5_routineOf : Cond.code yX5_routineOf cX5_routineOf 3 (some .int) ∈ pWW := pw3 (List.mem_of_getElem? (i := 76) rfl) rfl
abbrev m_X5_routineOf : MT := (yX5_routineOf, cX5_routineOf, 3, (some .int))
theorem ok_X5_routineOf : pOk m_X5_routineOf := ⟨⟨cd_X5_routineOf, ini_5⟩, by decide +kernel, ⟨by decide +kernel, by decide +kernel⟩, Nat.le_of_ble_eq_true rfl⟩
theorem np_X5_routineOf : (parseMethodDescriptor yX5_routineOf.desc).map (fun d => d.parameters.length) = some 1 := by decide +kernel
theorem im_X5_routineOf : Cond.instanceMethod yX5_routineOf ∈ pWW := pw3 (List.mem_of_getElem? (i := 75) rfl) rfl
theorem se_X5_routineOf : Cond.selects RX5 yX5_routineOf yX5_routineOf ∈ pWW := pws (List.mem_map.mpr ⟨_, lw_pin 7 rfl, rfl⟩) rfl
theorem fl5_58 : Cond.fieldLink RX5 58 (TX5 5).1 (TX5 5).2.1 (TX5 5).2.2.1 ∈ pWW := pw1 (List.mem_of_getElem? (i := 158) rfl) rfl
theorem fl5_24 : Cond.fieldLink RX5 24 (TX5 3).1 (TX5 3).2.1 (TX5 3).2.2.1 ∈ pWW := pw1 (List.mem_of_getElem? (i := 156) rfl) rfl
theorem nl5_231 : (RX5, 231, yX11_at, "LineKeeper") ∈ nst_M := List.mem_of_getElem? (i := 7) rfl
theorem dX5_routineOf_0 : decode cX5_routineOf 0 = .ok (.iconst 0, 1) := by decide +kernel
theorem dX5_routineOf_1 : decode cX5_routineOf 1 = .ok (.istore_n 2, 1) := by decide +kernel
theorem dX5_routineOf_2 : decode cX5_routineOf 2 = .ok (.iload_n 2, 1) := by decide +kernel
theorem dX5_routineOf_3 : decode cX5_routineOf 3 = .ok (.aload_n 0, 1) := by decide +kernel
theorem dX5_routineOf_4 : decode cX5_routineOf 4 = .ok (.getfield 58, 3) := by decide +kernel
theorem dX5_routineOf_7 : decode cX5_routineOf 7 = .ok (.if_icmp .ge 23, 3) := by decide +kernel
theorem dX5_routineOf_10 : decode cX5_routineOf 10 = .ok (.aload_n 0, 1) := by decide +kernel
theorem dX5_routineOf_11 : decode cX5_routineOf 11 = .ok (.getfield 24, 3) := by decide +kernel
theorem dX5_routineOf_14 : decode cX5_routineOf 14 = .ok (.iload_n 2, 1) := by decide +kernel
theorem dX5_routineOf_15 : decode cX5_routineOf 15 = .ok (.invokestatic 231, 3) := by decide +kernel
theorem dX5_routineOf_18 : decode cX5_routineOf 18 = .ok (.iload_n 1, 1) := by decide +kernel
theorem dX5_routineOf_19 : decode cX5_routineOf 19 = .ok (.if_icmp .ne 5, 3) := by decide +kernel
theorem dX5_routineOf_24 : decode cX5_routineOf 24 = .ok (.iinc 2 1, 3) := by decide +kernel
theorem dX5_routineOf_27 : decode cX5_routineOf 27 = .ok (.goto (-25), 3) := by decide +kernel
set_option maxRecDepth 20000 in
theorem l_X5_routineOf_2 (d : Nat) {T : CT} {σ : MS} {a : Nat} {c1 : Int} {post : Option Value → CT → MS → Prop} (h_a : OB T a 5) (r_c1 : -2147483648 ≤ c1 ∧ c1 ≤ 2147483647) (hw : WT T σ) (hx_22 : ∀ (i2 : Int) , (0 ≤ i2 ∧ i2 ≤ 2147483647) → Tn (d + 2) m_X5_routineOf 22 T σ [(0, .ref a), (1, .int (iI c1)), (2, .int (iI i2))] [] post) (hx_30 : ∀ (i2 : Int) , (0 ≤ i2 ∧ i2 ≤ 2147483647) → Tn (d + 2) m_X5_routineOf 30 T σ [(0, .ref a), (1, .int (iI c1)), (2, .int (iI i2))] [] post) : ∀ (n : Nat) (i2 : Int) , (0 ≤ i2 ∧ i2 ≤ 2147483647) → (2147483700 - i2).toNat = n → Tn (d + 2) m_X5_routineOf 2 T σ [(0, .ref a), (1, .int (iI c1)), (2, .int (iI i2))] [] post := by
  intro n
  induction n using Nat.strongRecOn with
  | _ n ih =>
    intro i2 r_i2 hm
    refine tn_iload_n dX5_routineOf_2 rfl 2 rfl ?_
    refine tn_aload_n dX5_routineOf_3 rfl 0 rfl ?_
    refine tn_getI (ci := 5) (i := 5) (n := 38) (t := σ.2.1 38 a) dX5_routineOf_4 rfl lay_5 (by decide) fl5_58 h_a rfl rfl (rfl) ?_
    have g1 : ((0 : Int) ≤ σ.2.1 38 a ∧ σ.2.1 38 a ≤ 256) := wf_38 hw h_a
    refine tn_icmp_ge (tgt := 30) dX5_routineOf_7 (by decide) ⟨by omega, by omega⟩ ⟨by omega, by omega⟩ (fun h2 => ?_) (fun h2 => ?_)
    · exact tn_sub [0, 1, 2] rfl (hx_30 (i2) (by omega))
    · refine tn_aload_n dX5_routineOf_10 rfl 0 rfl ?_
      obtain ⟨x3, hx4, hk5, hl6⟩ : ∃ x : Nat, σ.2.1 36 a = (x : Int) ∧ AR T x 16 256 256 := wf_36 hw h_a
      have hk5i : IA T x3 := by unfold IA; omega
      refine tn_getR (ci := 5) (i := 3) (n := 36) (x := x3) dX5_routineOf_11 rfl lay_5 (by decide) fl5_24 h_a rfl rfl (hx4) ?_
      refine tn_iload_n dX5_routineOf_14 rfl 2 rfl ?_
      refine tn_callSN (M := m_X5_routineOf) (pc := 15) (ix := 231) (M' := m_X11_at) (As := [.ref x3, .int (iI i2)]) (rest := []) dX5_routineOf_15 ok_X11_at stt_X11_at nl5_231 np_X11_at rfl (Nat.le_of_ble_eq_true rfl) (Nat.le_of_ble_eq_true rfl) rfl (k_X11_at (d) (T := T) (σ := σ) (x := x3) (i := i2) hk5i (by omega) (by omega) hw ) (fun r7 T9 σ8 gt10 hp => ?_)
      obtain ⟨v14, rfl, rfl, rfl, f11, f12, f13⟩ := hp
      clear gt10
      clear f12 f13
      show Tn _ _ 18 T σ [(0, .ref a), (1, .int (iI c1)), (2, .int (iI i2))] [.int (iI v14)] _
      refine tn_iload_n dX5_routineOf_18 rfl 1 rfl ?_
      refine tn_icmp_ne (tgt := 24) dX5_routineOf_19 (by decide) ⟨by omega, by omega⟩ ⟨by omega, by omega⟩ (fun h15 => ?_) (fun h15 => ?_)
      · refine tn_iinc (q0 := 2) (L' := [(2, .int (iI (i2 + 1))), (0, .ref a), (1, .int (iI c1))]) dX5_routineOf_24 rfl (by decide) rfl ?_
        refine tn_goto (tgt := 2) dX5_routineOf_27 (by decide) ?_
        exact tn_sub [1, 2, 0] rfl (ih _ (by omega) (i2 + 1) (by omega) rfl)
      · exact tn_sub [0, 1, 2] rfl (hx_22 (i2) (by omega))
theorem dX5_routineOf_22 : decode cX5_routineOf 22 = .ok (.iload_n 2, 1) := by decide +kernel
theorem dX5_routineOf_23 : decode cX5_routineOf 23 = .ok (.ireturn, 1) := by decide +kernel
theorem dX5_routineOf_30 : decode cX5_routineOf 30 = .ok (.iconst (-1), 1) := by decide +kernel
theorem dX5_routineOf_31 : decode cX5_routineOf 31 = .ok (.ireturn, 1) := by decide +kernel
set_option maxRecDepth 20000 in
theorem k_X5_routineOf (d : Nat) {T : CT} {σ : MS} {a : Nat} {k : Int} (ha : OB T a 5) (h_k : -2147483648 ≤ k ∧ k ≤ 2147483647) (hw : WT T σ) : Tn (d + 2) m_X5_routineOf 0 T σ [(0, .ref a), (1, .int (iI k))] [] (fun ro T2 σ2 => ∃ v : Int, ro = some (.int (iI v)) ∧ T = T2 ∧ σ = σ2 ∧ (-2147483648 ≤ v ∧ v ≤ 2147483647)) := by
  refine tn_iconst dX5_routineOf_0 ?_
  refine tn_istore_n (L' := [(2, .int (iI 0)), (0, .ref a), (1, .int (iI k))]) dX5_routineOf_1 rfl (by decide) rfl ?_
  refine tn_sub [1, 2, 0] rfl (l_X5_routineOf_2 (d) (T := T) (σ := σ) (a := a) (c1 := k) ha (by omega) hw (fun i21 r7 => ?_) (fun i28 r14 => ?_) _ (0) (by omega) rfl)
  · show Tn _ _ 22 T σ [(0, .ref a), (1, .int (iI k)), (2, .int (iI i21))] [] _
    refine tn_iload_n dX5_routineOf_22 rfl 2 rfl ?_
    exact tn_iret rfl dX5_routineOf_23 ⟨_, rfl, rfl, rfl, by omega⟩
  · show Tn _ _ 30 T σ [(0, .ref a), (1, .int (iI k)), (2, .int (iI i28))] [] _
    refine tn_iconst dX5_routineOf_30 ?_
    exact tn_iret rfl dX5_routineOf_31 ⟨_, rfl, rfl, rfl, by omega⟩
