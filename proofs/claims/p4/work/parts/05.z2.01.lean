theorem cd_X4_isSmall : Cond.code yX4_isSmall cX4_isSmall 2 (some .boolean) ∈ pWW := pw5 (List.mem_of_getElem? (i := 139) rfl) rfl
theorem ini_4 : Cond.initialized RX4 ∈ pWW := pw1 (List.mem_of_getElem? (i := 9) rfl) rfl
abbrev m_X4_isSmall : MT := (yX4_isSmall, cX4_isSmall, 2, (some .boolean))
theorem ok_X4_isSmall : pOk m_X4_isSmall := ⟨⟨cd_X4_isSmall, ini_4⟩, by decide +kernel, ⟨by decide +kernel, by decide +kernel⟩, Nat.le_of_ble_eq_true rfl⟩
theorem np_X4_isSmall : (parseMethodDescriptor yX4_isSmall.desc).map (fun d => d.parameters.length) = some 0 := by decide +kernel
theorem im_X4_isSmall : Cond.instanceMethod yX4_isSmall ∈ pWW := pw5 (List.mem_of_getElem? (i := 138) rfl) rfl
theorem se_X4_isSmall : Cond.selects RX4 yX4_isSmall yX4_isSmall ∈ pWW := pws (List.mem_map.mpr ⟨_, lw_pin 64 rfl, rfl⟩) rfl
theorem fl4_33 : Cond.fieldLink RX4 33 (TX4 3).1 (TX4 3).2.1 (TX4 3).2.2.1 ∈ pWW := pw2 (List.mem_of_getElem? (i := 64) rfl) rfl
theorem fl4_23 : Cond.fieldLink RX4 23 (TX1 1).1 (TX1 1).2.1 (TX1 1).2.2.1 ∈ pWW := pw1 (List.mem_of_getElem? (i := 80) rfl) rfl
theorem ml4_29 : Cond.methodLink RX4 29 yX1_get ∈ pWW := pw5 (List.mem_of_getElem? (i := 135) rfl) rfl
theorem dX4_isSmall_0 : decode cX4_isSmall 0 = .ok (.iconst 0, 1) := by decide +kernel
theorem dX4_isSmall_1 : decode cX4_isSmall 1 = .ok (.istore_n 1, 1) := by decide +kernel
theorem dX4_isSmall_2 : decode cX4_isSmall 2 = .ok (.iload_n 1, 1) := by decide +kernel
theorem dX4_isSmall_3 : decode cX4_isSmall 3 = .ok (.aload_n 0, 1) := by decide +kernel
theorem dX4_isSmall_4 : decode cX4_isSmall 4 = .ok (.getfield 33, 3) := by decide +kernel
theorem dX4_isSmall_7 : decode cX4_isSmall 7 = .ok (.getfield 23, 3) := by decide +kernel
theorem dX4_isSmall_10 : decode cX4_isSmall 10 = .ok (.if_icmp .ge 25, 3) := by decide +kernel
theorem dX4_isSmall_13 : decode cX4_isSmall 13 = .ok (.aload_n 0, 1) := by decide +kernel
theorem dX4_isSmall_14 : decode cX4_isSmall 14 = .ok (.getfield 33, 3) := by decide +kernel
theorem dX4_isSmall_17 : decode cX4_isSmall 17 = .ok (.iload_n 1, 1) := by decide +kernel
theorem dX4_isSmall_18 : decode cX4_isSmall 18 = .ok (.iconst 0, 1) := by decide +kernel
theorem dX4_isSmall_19 : decode cX4_isSmall 19 = .ok (.invokevirtual 29, 3) := by decide +kernel
theorem dX4_isSmall_22 : decode cX4_isSmall 22 = .ok (.bipush 10, 2) := by decide +kernel
theorem dX4_isSmall_24 : decode cX4_isSmall 24 = .ok (.if_icmp .ne 5, 3) := by decide +kernel
theorem dX4_isSmall_29 : decode cX4_isSmall 29 = .ok (.iinc 1 1, 3) := by decide +kernel
theorem dX4_isSmall_32 : decode cX4_isSmall 32 = .ok (.goto (-30), 3) := by decide +kernel
set_option maxRecDepth 20000 in
theorem l_X4_isSmall_2 (d : Nat) {T : CT} {σ : MS} {a : Nat} {post : Option Value → CT → MS → Prop} (h_a : OB T a 4) (hw : WT T σ) (hg : 0 ≤ σ.2.1 26 a) (hx_27 : ∀ (i1 : Int) , (0 ≤ i1 ∧ i1 ≤ 2147483647) → Tn (d + 3) m_X4_isSmall 27 T σ [(0, .ref a), (1, .int (iI i1))] [] post) (hx_35 : ∀ (i1 : Int) , (0 ≤ i1 ∧ i1 ≤ 2147483647) → Tn (d + 3) m_X4_isSmall 35 T σ [(0, .ref a), (1, .int (iI i1))] [] post) : ∀ (n : Nat) (i1 : Int) , (0 ≤ i1 ∧ i1 ≤ 2147483647) → (2147483700 - i1).toNat = n → Tn (d + 3) m_X4_isSmall 2 T σ [(0, .ref a), (1, .int (iI i1))] [] post := by
  intro n
  induction n using Nat.strongRecOn with
  | _ n ih =>
    intro i1 r_i1 hm
    refine tn_iload_n dX4_isSmall_2 rfl 1 rfl ?_
    refine tn_aload_n dX4_isSmall_3 rfl 0 rfl ?_
    have nn8 : 0 ≤ σ.2.1 26 a := (by omega)
    obtain ⟨x5, hx6, hk7⟩ := (wf_26 hw h_a).resolve_left (by omega)
    have hk7o : OB T x5 1 := ⟨by omega, by rw [hk7]; rfl, by omega⟩
    refine tn_getR (ci := 4) (i := 3) (n := 26) (x := x5) dX4_isSmall_4 rfl lay_4 (by decide) fl4_33 h_a rfl rfl (hx6) ?_
    refine tn_getI (ci := 1) (i := 1) (n := 6) (t := σ.2.1 6 x5) dX4_isSmall_7 rfl lay_1 (by decide) fl4_23 hk7o rfl rfl (rfl) ?_
    have g9 : ((0 : Int) ≤ σ.2.1 6 x5 ∧ σ.2.1 6 x5 ≤ 5000) ∧ ((T x5).1 = 50 → σ.2.1 6 x5 ≤ 200) := wf_6 hw hk7o
    have g9x := g9.2
    replace g9 := g9.1
    have g9x := g9x hk7
    refine tn_icmp_ge (tgt := 35) dX4_isSmall_10 (by decide) ⟨by omega, by omega⟩ ⟨by omega, by omega⟩ (fun h10 => ?_) (fun h10 => ?_)
    · exact tn_sub [0, 1] rfl (hx_35 (i1) (by omega))
    · refine tn_aload_n dX4_isSmall_13 rfl 0 rfl ?_
      refine tn_getR (ci := 4) (i := 3) (n := 26) (x := x5) dX4_isSmall_14 rfl lay_4 (by decide) fl4_33 h_a rfl rfl (hx6) ?_
      refine tn_iload_n dX4_isSmall_17 rfl 1 rfl ?_
      refine tn_iconst dX4_isSmall_18 ?_
      refine tn_callV (M := m_X4_isSmall) (pc := 19) (ix := 29) (ci := 1) (M' := m_X1_get) (As := [.int (iI i1), .int (iI 0)]) (rest := []) dX4_isSmall_19 ok_X1_get im_X1_get se_X1_get ml4_29 np_X1_get rfl rfl hk7o rfl (Nat.le_of_ble_eq_true rfl) (Nat.le_of_ble_eq_true rfl) rfl (k_X1_get (d + 1) (T := T) (σ := σ) (a := x5) (k := i1) (c := 0) hk7o (by omega) (by decide) hw (by omega)) (fun r11 T13 σ12 gt14 hp => ?_)
      obtain ⟨v16, rfl, rfl, rfl, f15⟩ := hp
      clear gt14
      show Tn _ _ 22 T σ [(0, .ref a), (1, .int (iI i1))] [.int (iI v16)] _
      refine tn_bipush dX4_isSmall_22 (by decide) ?_
      refine tn_icmp_ne (tgt := 29) dX4_isSmall_24 (by decide) ⟨by omega, by omega⟩ ⟨by decide, by decide⟩ (fun h17 => ?_) (fun h17 => ?_)
      · refine tn_iinc (q0 := 1) (L' := [(1, .int (iI (i1 + 1))), (0, .ref a)]) dX4_isSmall_29 rfl (by decide) rfl ?_
        refine tn_goto (tgt := 2) dX4_isSmall_32 (by decide) ?_
        exact tn_sub [1, 0] rfl (ih _ (by omega) (i1 + 1) (by omega) rfl)
      · exact tn_sub [0, 1] rfl (hx_27 (i1) (by omega))
theorem ml4_44 : Cond.methodLink RX4 44 yX1_acts ∈ pWW := pw5 (List.mem_of_getElem? (i := 140) rfl) rfl
theorem dX4_isSmall_27 : decode cX4_isSmall 27 = .ok (.iconst 0, 1) := by decide +kernel
theorem dX4_isSmall_28 : decode cX4_isSmall 28 = .ok (.ireturn, 1) := by decide +kernel
theorem dX4_isSmall_35 : decode cX4_isSmall 35 = .ok (.aload_n 0, 1) := by decide +kernel
theorem dX4_isSmall_36 : decode cX4_isSmall 36 = .ok (.getfield 33, 3) := by decide +kernel
theorem dX4_isSmall_39 : decode cX4_isSmall 39 = .ok (.invokevirtual 44, 3) := by decide +kernel
theorem dX4_isSmall_42 : decode cX4_isSmall 42 = .ok (.bipush 20, 2) := by decide +kernel
theorem dX4_isSmall_44 : decode cX4_isSmall 44 = .ok (.if_icmp .gt 7, 3) := by decide +kernel
theorem dX4_isSmall_51 : decode cX4_isSmall 51 = .ok (.iconst 0, 1) := by decide +kernel
theorem dX4_isSmall_52 : decode cX4_isSmall 52 = .ok (.ireturn, 1) := by decide +kernel
theorem dX4_isSmall_47 : decode cX4_isSmall 47 = .ok (.iconst 1, 1) := by decide +kernel
theorem dX4_isSmall_48 : decode cX4_isSmall 48 = .ok (.goto 4, 3) := by decide +kernel
set_option maxRecDepth 20000 in
theorem k_X4_isSmall (d : Nat) {T : CT} {σ : MS} {a : Nat} (ha : OB T a 4) (hw : WT T σ) (hg : 0 ≤ σ.2.1 26 a) : Tn (d + 3) m_X4_isSmall 0 T σ [(0, .ref a)] [] (fun ro T2 σ2 => ∃ v : Int, ro = some (.int (iI v)) ∧ T = T2 ∧ σ = σ2 ∧ (v = 0 ∨ v = 1)) := by
  refine tn_iconst dX4_isSmall_0 ?_
  refine tn_istore_n (L' := [(1, .int (iI 0)), (0, .ref a)]) dX4_isSmall_1 rfl (by decide) rfl ?_
  refine tn_sub [1, 0] rfl (l_X4_isSmall_2 (d) (T := T) (σ := σ) (a := a) ha hw (by omega) (fun i11 r7 => ?_) (fun i18 r14 => ?_) _ (0) (by omega) rfl)
  · show Tn _ _ 27 T σ [(0, .ref a), (1, .int (iI i11))] [] _
    refine tn_iconst dX4_isSmall_27 ?_
    exact tn_zret (v := 0) rfl (by decide) dX4_isSmall_28 ⟨_, rfl, rfl, rfl, by omega⟩
  · show Tn _ _ 35 T σ [(0, .ref a), (1, .int (iI i18))] [] _
    refine tn_aload_n dX4_isSmall_35 rfl 0 rfl ?_
    have nn22 : 0 ≤ σ.2.1 26 a := (by omega)
    obtain ⟨x19, hx20, hk21⟩ := (wf_26 hw ha).resolve_left (by omega)
    have hk21o : OB T x19 1 := ⟨by omega, by rw [hk21]; rfl, by omega⟩
    refine tn_getR (ci := 4) (i := 3) (n := 26) (x := x19) dX4_isSmall_36 rfl lay_4 (by decide) fl4_33 ha rfl rfl (hx20) ?_
    refine tn_callV (M := m_X4_isSmall) (pc := 39) (ix := 44) (ci := 1) (M' := m_X1_acts) (As := []) (rest := []) dX4_isSmall_39 ok_X1_acts im_X1_acts se_X1_acts ml4_44 np_X1_acts rfl rfl hk21o rfl (Nat.le_of_ble_eq_true rfl) (Nat.le_of_ble_eq_true rfl) rfl (k_X1_acts (d) (T := T) (σ := σ) (a := x19) hk21o hw ) (fun r23 T25 σ24 gt26 hp => ?_)
    obtain ⟨v28, rfl, rfl, rfl, f27⟩ := hp
    clear gt26
    show Tn _ _ 42 T σ [(0, .ref a), (1, .int (iI i18))] [.int (iI v28)] _
    refine tn_bipush dX4_isSmall_42 (by decide) ?_
    refine tn_icmp_gt (tgt := 51) dX4_isSmall_44 (by decide) ⟨by omega, by omega⟩ ⟨by decide, by decide⟩ (fun h29 => ?_) (fun h29 => ?_)
    · refine tn_iconst dX4_isSmall_51 ?_
      exact tn_zret (v := 0) rfl (by decide) dX4_isSmall_52 ⟨_, rfl, rfl, rfl, by omega⟩
    · refine tn_iconst dX4_isSmall_47 ?_
      refine tn_goto (tgt := 52) dX4_isSmall_48 (by decide) ?_
      exact tn_zret (v := 1) rfl (by decide) dX4_isSmall_52 ⟨_, rfl, rfl, rfl, by omega⟩
