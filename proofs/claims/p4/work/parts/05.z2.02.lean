theorem cd_X4_needsNought : Cond.code yX4_needsNought cX4_needsNought 3 (some .boolean) ∈ pWW := pw5 (List.mem_of_getElem? (i := 158) rfl) rfl
abbrev m_X4_needsNought : MT := (yX4_needsNought, cX4_needsNought, 3, (some .boolean))
theorem ok_X4_needsNought : pOk m_X4_needsNought := ⟨⟨cd_X4_needsNought, ini_4⟩, by decide +kernel, ⟨by decide +kernel, by decide +kernel⟩, Nat.le_of_ble_eq_true rfl⟩
theorem np_X4_needsNought : (parseMethodDescriptor yX4_needsNought.desc).map (fun d => d.parameters.length) = some 1 := by decide +kernel
theorem im_X4_needsNought : Cond.instanceMethod yX4_needsNought ∈ pWW := pw5 (List.mem_of_getElem? (i := 157) rfl) rfl
theorem se_X4_needsNought : Cond.selects RX4 yX4_needsNought yX4_needsNought ∈ pWW := pws (List.mem_map.mpr ⟨_, lw_pin 67 rfl, rfl⟩) rfl
theorem fl4_15 : Cond.fieldLink RX4 15 (TX4 0).1 (TX4 0).2.1 (TX4 0).2.2.1 ∈ pWW := pw2 (List.mem_of_getElem? (i := 61) rfl) rfl
theorem fl4_114 : Cond.fieldLink RX4 114 (TX3 0).1 (TX3 0).2.1 (TX3 0).2.2.1 ∈ pWW := pw1 (List.mem_of_getElem? (i := 222) rfl) rfl
theorem nl4_118 : (RX4, 118, yX11_has, "LineKeeper") ∈ nst_M := List.mem_of_getElem? (i := 36) rfl
theorem fl4_108 : Cond.fieldLink RX4 108 (TX1 3).1 (TX1 3).2.1 (TX1 3).2.2.1 ∈ pWW := pw1 (List.mem_of_getElem? (i := 94) rfl) rfl
theorem ml4_122 : Cond.methodLink RX4 122 yX1_homeOf ∈ pWW := pw5 (List.mem_of_getElem? (i := 160) rfl) rfl
theorem dX4_needsNought_0 : decode cX4_needsNought 0 = .ok (.aload_n 0, 1) := by decide +kernel
theorem dX4_needsNought_1 : decode cX4_needsNought 1 = .ok (.getfield 15, 3) := by decide +kernel
theorem dX4_needsNought_4 : decode cX4_needsNought 4 = .ok (.getfield 114, 3) := by decide +kernel
theorem dX4_needsNought_7 : decode cX4_needsNought 7 = .ok (.iconst 0, 1) := by decide +kernel
theorem dX4_needsNought_8 : decode cX4_needsNought 8 = .ok (.iload_n 1, 1) := by decide +kernel
theorem dX4_needsNought_9 : decode cX4_needsNought 9 = .ok (.invokestatic 118, 3) := by decide +kernel
theorem dX4_needsNought_12 : decode cX4_needsNought 12 = .ok (.ifCond .ne 5, 3) := by decide +kernel
theorem dX4_needsNought_17 : decode cX4_needsNought 17 = .ok (.iconst 0, 1) := by decide +kernel
theorem dX4_needsNought_18 : decode cX4_needsNought 18 = .ok (.istore_n 2, 1) := by decide +kernel
theorem dX4_needsNought_19 : decode cX4_needsNought 19 = .ok (.iload_n 2, 1) := by decide +kernel
theorem dX4_needsNought_20 : decode cX4_needsNought 20 = .ok (.aload_n 0, 1) := by decide +kernel
theorem dX4_needsNought_21 : decode cX4_needsNought 21 = .ok (.getfield 33, 3) := by decide +kernel
theorem dX4_needsNought_24 : decode cX4_needsNought 24 = .ok (.getfield 108, 3) := by decide +kernel
theorem dX4_needsNought_27 : decode cX4_needsNought 27 = .ok (.if_icmp .ge 24, 3) := by decide +kernel
theorem dX4_needsNought_30 : decode cX4_needsNought 30 = .ok (.aload_n 0, 1) := by decide +kernel
theorem dX4_needsNought_31 : decode cX4_needsNought 31 = .ok (.getfield 33, 3) := by decide +kernel
theorem dX4_needsNought_34 : decode cX4_needsNought 34 = .ok (.iconst 0, 1) := by decide +kernel
theorem dX4_needsNought_35 : decode cX4_needsNought 35 = .ok (.iload_n 2, 1) := by decide +kernel
theorem dX4_needsNought_36 : decode cX4_needsNought 36 = .ok (.invokevirtual 122, 3) := by decide +kernel
theorem dX4_needsNought_39 : decode cX4_needsNought 39 = .ok (.iload_n 1, 1) := by decide +kernel
theorem dX4_needsNought_40 : decode cX4_needsNought 40 = .ok (.if_icmp .ne 5, 3) := by decide +kernel
theorem dX4_needsNought_45 : decode cX4_needsNought 45 = .ok (.iinc 2 1, 3) := by decide +kernel
theorem dX4_needsNought_48 : decode cX4_needsNought 48 = .ok (.goto (-29), 3) := by decide +kernel
set_option maxRecDepth 20000 in
theorem l_X4_needsNought_19 (d : Nat) {T : CT} {σ : MS} {a : Nat} {c1 : Int} {post : Option Value → CT → MS → Prop} (h_a : OB T a 4) (r_c1 : -2147483648 ≤ c1 ∧ c1 ≤ 2147483647) (hw : WT T σ) (hg : 0 ≤ σ.2.1 26 a) (hx_43 : ∀ (i2 : Int) , (0 ≤ i2 ∧ i2 ≤ 2147483647) → Tn (d + 3) m_X4_needsNought 43 T σ [(0, .ref a), (1, .int (iI c1)), (2, .int (iI i2))] [] post) (hx_51 : ∀ (i2 : Int) , (0 ≤ i2 ∧ i2 ≤ 2147483647) → Tn (d + 3) m_X4_needsNought 51 T σ [(0, .ref a), (1, .int (iI c1)), (2, .int (iI i2))] [] post) : ∀ (n : Nat) (i2 : Int) , (0 ≤ i2 ∧ i2 ≤ 2147483647) → (2147483700 - i2).toNat = n → Tn (d + 3) m_X4_needsNought 19 T σ [(0, .ref a), (1, .int (iI c1)), (2, .int (iI i2))] [] post := by
  intro n
  induction n using Nat.strongRecOn with
  | _ n ih =>
    intro i2 r_i2 hm
    refine tn_iload_n dX4_needsNought_19 rfl 2 rfl ?_
    refine tn_aload_n dX4_needsNought_20 rfl 0 rfl ?_
    have nn8 : 0 ≤ σ.2.1 26 a := (by omega)
    obtain ⟨x5, hx6, hk7⟩ := (wf_26 hw h_a).resolve_left (by omega)
    have hk7o : OB T x5 1 := ⟨by omega, by rw [hk7]; rfl, by omega⟩
    refine tn_getR (ci := 4) (i := 3) (n := 26) (x := x5) dX4_needsNought_21 rfl lay_4 (by decide) fl4_33 h_a rfl rfl (hx6) ?_
    refine tn_getI (ci := 1) (i := 3) (n := 8) (t := σ.2.1 8 x5) dX4_needsNought_24 rfl lay_1 (by decide) fl4_108 hk7o rfl rfl (rfl) ?_
    have g9 : ((0 : Int) ≤ σ.2.1 8 x5 ∧ σ.2.1 8 x5 ≤ 4) := wf_8 hw hk7o
    refine tn_icmp_ge (tgt := 51) dX4_needsNought_27 (by decide) ⟨by omega, by omega⟩ ⟨by omega, by omega⟩ (fun h10 => ?_) (fun h10 => ?_)
    · exact tn_sub [0, 1, 2] rfl (hx_51 (i2) (by omega))
    · refine tn_aload_n dX4_needsNought_30 rfl 0 rfl ?_
      refine tn_getR (ci := 4) (i := 3) (n := 26) (x := x5) dX4_needsNought_31 rfl lay_4 (by decide) fl4_33 h_a rfl rfl (hx6) ?_
      refine tn_iconst dX4_needsNought_34 ?_
      refine tn_iload_n dX4_needsNought_35 rfl 2 rfl ?_
      refine tn_callV (M := m_X4_needsNought) (pc := 36) (ix := 122) (ci := 1) (M' := m_X1_homeOf) (As := [.int (iI 0), .int (iI i2)]) (rest := []) dX4_needsNought_36 ok_X1_homeOf im_X1_homeOf se_X1_homeOf ml4_122 np_X1_homeOf rfl rfl hk7o rfl (Nat.le_of_ble_eq_true rfl) (Nat.le_of_ble_eq_true rfl) rfl (k_X1_homeOf (d) (T := T) (σ := σ) (a := x5) (f := 0) (m := i2) hk7o (by decide) (by omega) hw ) (fun r11 T13 σ12 gt14 hp => ?_)
      obtain ⟨v16, rfl, rfl, rfl, f15⟩ := hp
      clear gt14
      show Tn _ _ 39 T σ [(0, .ref a), (1, .int (iI c1)), (2, .int (iI i2))] [.int (iI v16)] _
      refine tn_iload_n dX4_needsNought_39 rfl 1 rfl ?_
      refine tn_icmp_ne (tgt := 45) dX4_needsNought_40 (by decide) ⟨by omega, by omega⟩ ⟨by omega, by omega⟩ (fun h17 => ?_) (fun h17 => ?_)
      · refine tn_iinc (q0 := 2) (L' := [(2, .int (iI (i2 + 1))), (0, .ref a), (1, .int (iI c1))]) dX4_needsNought_45 rfl (by decide) rfl ?_
        refine tn_goto (tgt := 19) dX4_needsNought_48 (by decide) ?_
        exact tn_sub [1, 2, 0] rfl (ih _ (by omega) (i2 + 1) (by omega) rfl)
      · exact tn_sub [0, 1, 2] rfl (hx_43 (i2) (by omega))
theorem dX4_needsNought_43 : decode cX4_needsNought 43 = .ok (.iconst 0, 1) := by decide +kernel
theorem dX4_needsNought_44 : decode cX4_needsNought 44 = .ok (.ireturn, 1) := by decide +kernel
theorem dX4_needsNought_51 : decode cX4_needsNought 51 = .ok (.iconst 1, 1) := by decide +kernel
theorem dX4_needsNought_52 : decode cX4_needsNought 52 = .ok (.ireturn, 1) := by decide +kernel
theorem dX4_needsNought_15 : decode cX4_needsNought 15 = .ok (.iconst 0, 1) := by decide +kernel
theorem dX4_needsNought_16 : decode cX4_needsNought 16 = .ok (.ireturn, 1) := by decide +kernel
set_option maxRecDepth 20000 in
theorem k_X4_needsNought (d : Nat) {T : CT} {σ : MS} {a : Nat} {p1 : Int} (ha : OB T a 4) (h_p1 : -2147483648 ≤ p1 ∧ p1 ≤ 2147483647) (hw : WT T σ) (hg : 0 ≤ σ.2.1 26 a) : Tn (d + 3) m_X4_needsNought 0 T σ [(0, .ref a), (1, .int (iI p1))] [] (fun ro T2 σ2 => ∃ v : Int, ro = some (.int (iI v)) ∧ T = T2 ∧ σ = σ2 ∧ (v = 0 ∨ v = 1)) := by
  refine tn_aload_n dX4_needsNought_0 rfl 0 rfl ?_
  obtain ⟨x1, hx2, hk3⟩ : ∃ x : Nat, σ.2.1 23 a = (x : Int) ∧ (T x).1 = 33 := wf_23 hw ha
  have hk3o : OB T x1 3 := ⟨by omega, by rw [hk3]; rfl, by omega⟩
  refine tn_getR (ci := 4) (i := 0) (n := 23) (x := x1) dX4_needsNought_1 rfl lay_4 (by decide) fl4_15 ha rfl rfl (hx2) ?_
  obtain ⟨x5, hx6, hk7, hl8⟩ : ∃ x : Nat, σ.2.1 18 x1 = (x : Int) ∧ AR T x 3 603 603 := wf_18 hw hk3o
  refine tn_getR (ci := 3) (i := 0) (n := 18) (x := x5) dX4_needsNought_4 rfl lay_3 (by decide) fl4_114 hk3o rfl rfl (hx6) ?_
  refine tn_iconst dX4_needsNought_7 ?_
  refine tn_iload_n dX4_needsNought_8 rfl 1 rfl ?_
  refine tn_callSN (M := m_X4_needsNought) (pc := 9) (ix := 118) (M' := m_X11_has) (As := [.ref x5, .int (iI 0), .int (iI p1)]) (rest := []) dX4_needsNought_9 ok_X11_has stt_X11_has nl4_118 np_X11_has rfl (Nat.le_of_ble_eq_true rfl) (Nat.le_of_ble_eq_true rfl) rfl (k_X11_has (d) (T := T) (σ := σ) (x := x5) (k := 0) (r := p1) hk7 (by omega) (by decide) (by omega) hw ) (fun r9 T11 σ10 gt12 hp => ?_)
  obtain ⟨v14, rfl, rfl, rfl, f13⟩ := hp
  clear gt12
  show Tn _ _ 12 T σ [(0, .ref a), (1, .int (iI p1))] [.int (iI v14)] _
  refine tn_if_ne (tgt := 17) dX4_needsNought_12 (by decide) ⟨by omega, by omega⟩ (fun h15 => ?_) (fun h15 => ?_)
  · refine tn_iconst dX4_needsNought_17 ?_
    refine tn_istore_n (L' := [(2, .int (iI 0)), (0, .ref a), (1, .int (iI p1))]) dX4_needsNought_18 rfl (by decide) rfl ?_
    refine tn_sub [1, 2, 0] rfl (l_X4_needsNought_19 (d) (T := T) (σ := σ) (a := a) (c1 := p1) ha (by omega) hw (by omega) (fun i216 r22 => ?_) (fun i223 r29 => ?_) _ (0) (by omega) rfl)
    · show Tn _ _ 43 T σ [(0, .ref a), (1, .int (iI p1)), (2, .int (iI i216))] [] _
      refine tn_iconst dX4_needsNought_43 ?_
      exact tn_zret (v := 0) rfl (by decide) dX4_needsNought_44 ⟨_, rfl, rfl, rfl, by omega⟩
    · show Tn _ _ 51 T σ [(0, .ref a), (1, .int (iI p1)), (2, .int (iI i223))] [] _
      refine tn_iconst dX4_needsNought_51 ?_
      exact tn_zret (v := 1) rfl (by decide) dX4_needsNought_52 ⟨_, rfl, rfl, rfl, by omega⟩
  · refine tn_iconst dX4_needsNought_15 ?_
    exact tn_zret (v := 0) rfl (by decide) dX4_needsNought_16 ⟨_, rfl, rfl, rfl, by omega⟩
