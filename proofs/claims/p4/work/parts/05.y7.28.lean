theorem cd_X8_findFirst : Cond.code yX8_findFirst cX8_findFirst 3 none ∈ pWW := pw5 (List.mem_of_getElem? (i := 209) rfl) rfl
theorem ini_8 : Cond.initialized RX8 ∈ pWW := pw1 (List.mem_of_getElem? (i := 10) rfl) rfl
abbrev m_X8_findFirst : MT := (yX8_findFirst, cX8_findFirst, 3, none)
theorem ok_X8_findFirst : pOk m_X8_findFirst := ⟨⟨cd_X8_findFirst, ini_8⟩, by decide +kernel, ⟨by decide +kernel, by decide +kernel⟩, Nat.le_of_ble_eq_true rfl⟩
theorem np_X8_findFirst : (parseMethodDescriptor yX8_findFirst.desc).map (fun d => d.parameters.length) = some 1 := by decide +kernel
theorem im_X8_findFirst : Cond.instanceMethod yX8_findFirst ∈ pWW := pw5 (List.mem_of_getElem? (i := 208) rfl) rfl
theorem se_X8_findFirst : Cond.selects RX8 yX8_findFirst yX8_findFirst ∈ pWW := pws (List.mem_map.mpr ⟨_, lw_pin 75 rfl, rfl⟩) rfl
theorem fl8_34 : Cond.fieldLink RX8 34 (TX8 0).1 (TX8 0).2.1 (TX8 0).2.2.1 ∈ pWW := pw2 (List.mem_of_getElem? (i := 98) rfl) rfl
theorem fl8_89 : Cond.fieldLink RX8 89 (TX3 0).1 (TX3 0).2.1 (TX3 0).2.2.1 ∈ pWW := pw1 (List.mem_of_getElem? (i := 221) rfl) rfl
theorem fl8_15 : Cond.fieldLink RX8 15 (TX8 2).1 (TX8 2).2.1 (TX8 2).2.2.1 ∈ pWW := pw2 (List.mem_of_getElem? (i := 100) rfl) rfl
theorem mla8_92 : Cond.methodLink RX8 92 arraycopyName ∈ pWW := pw5 (List.mem_of_getElem? (i := 210) rfl) rfl
theorem fl8_98 : Cond.fieldLink RX8 98 (TX1 3).1 (TX1 3).2.1 (TX1 3).2.2.1 ∈ pWW := pw1 (List.mem_of_getElem? (i := 93) rfl) rfl
theorem ml8_101 : Cond.methodLink RX8 101 yX1_homeOf ∈ pWW := pw5 (List.mem_of_getElem? (i := 211) rfl) rfl
theorem nl8_104 : (RX8, 104, yX11_include, "LineKeeper") ∈ nst_M := List.mem_of_getElem? (i := 40) rfl
theorem dX8_findFirst_0 : decode cX8_findFirst 0 = .ok (.aload_n 0, 1) := by decide +kernel
theorem dX8_findFirst_1 : decode cX8_findFirst 1 = .ok (.getfield 34, 3) := by decide +kernel
theorem dX8_findFirst_4 : decode cX8_findFirst 4 = .ok (.getfield 89, 3) := by decide +kernel
theorem dX8_findFirst_7 : decode cX8_findFirst 7 = .ok (.iconst 0, 1) := by decide +kernel
theorem dX8_findFirst_8 : decode cX8_findFirst 8 = .ok (.aload_n 0, 1) := by decide +kernel
theorem dX8_findFirst_9 : decode cX8_findFirst 9 = .ok (.getfield 15, 3) := by decide +kernel
theorem dX8_findFirst_12 : decode cX8_findFirst 12 = .ok (.iconst 0, 1) := by decide +kernel
theorem dX8_findFirst_13 : decode cX8_findFirst 13 = .ok (.iconst 3, 1) := by decide +kernel
theorem dX8_findFirst_14 : decode cX8_findFirst 14 = .ok (.invokestatic 92, 3) := by decide +kernel
theorem dX8_findFirst_17 : decode cX8_findFirst 17 = .ok (.iconst 0, 1) := by decide +kernel
theorem dX8_findFirst_18 : decode cX8_findFirst 18 = .ok (.istore_n 2, 1) := by decide +kernel
theorem dX8_findFirst_19 : decode cX8_findFirst 19 = .ok (.iload_n 2, 1) := by decide +kernel
theorem dX8_findFirst_20 : decode cX8_findFirst 20 = .ok (.aload_n 1, 1) := by decide +kernel
theorem dX8_findFirst_21 : decode cX8_findFirst 21 = .ok (.getfield 98, 3) := by decide +kernel
theorem dX8_findFirst_24 : decode cX8_findFirst 24 = .ok (.if_icmp .ge 23, 3) := by decide +kernel
theorem dX8_findFirst_27 : decode cX8_findFirst 27 = .ok (.aload_n 0, 1) := by decide +kernel
theorem dX8_findFirst_28 : decode cX8_findFirst 28 = .ok (.getfield 15, 3) := by decide +kernel
theorem dX8_findFirst_31 : decode cX8_findFirst 31 = .ok (.iconst 0, 1) := by decide +kernel
theorem dX8_findFirst_32 : decode cX8_findFirst 32 = .ok (.aload_n 1, 1) := by decide +kernel
theorem dX8_findFirst_33 : decode cX8_findFirst 33 = .ok (.iconst 0, 1) := by decide +kernel
theorem dX8_findFirst_34 : decode cX8_findFirst 34 = .ok (.iload_n 2, 1) := by decide +kernel
theorem dX8_findFirst_35 : decode cX8_findFirst 35 = .ok (.invokevirtual 101, 3) := by decide +kernel
theorem dX8_findFirst_38 : decode cX8_findFirst 38 = .ok (.invokestatic 104, 3) := by decide +kernel
theorem dX8_findFirst_41 : decode cX8_findFirst 41 = .ok (.iinc 2 1, 3) := by decide +kernel
theorem dX8_findFirst_44 : decode cX8_findFirst 44 = .ok (.goto (-25), 3) := by decide +kernel
set_option maxRecDepth 20000 in
theorem l_X8_findFirst_19 (d : Nat) {T : CT} {σ0 : MS} {a : Nat} {rx1 : Nat} {post : Option Value → CT → MS → Prop} (h_a : OB T a 8) (h_rx1 : OB T rx1 1) (t_rx1 : (T rx1).1 = 50) (hw0 : WT T σ0) (hx_47 : ∀ (i2 : Int) (σ : MS) , (WT T σ) → (FrC T [] σ0 σ) → (0 ≤ i2 ∧ i2 ≤ 2147483647) → Tn (d + 3) m_X8_findFirst 47 T σ [(0, .ref a), (1, .ref rx1), (2, .int (iI i2))] [] post) : ∀ (n : Nat) (i2 : Int) (σ : MS) , (WT T σ) → (FrC T [] σ0 σ) → (0 ≤ i2 ∧ i2 ≤ 2147483647) → (2147483700 - i2).toNat = n → Tn (d + 3) m_X8_findFirst 19 T σ [(0, .ref a), (1, .ref rx1), (2, .int (iI i2))] [] post := by
  intro n
  induction n using Nat.strongRecOn with
  | _ n ih =>
    intro i2 σ hw hF r_i2 hm
    refine tn_iload_n dX8_findFirst_19 rfl 2 rfl ?_
    refine tn_aload_n dX8_findFirst_20 rfl 1 rfl ?_
    refine tn_getI (ci := 1) (i := 3) (n := 8) (t := σ0.2.1 8 rx1) dX8_findFirst_21 rfl lay_1 (by decide) fl8_98 h_rx1 rfl rfl (rc_F hF (Or.inl (by decide)) (by decide) (rfl)) ?_
    have g1 : ((0 : Int) ≤ σ0.2.1 8 rx1 ∧ σ0.2.1 8 rx1 ≤ 4) := wf_8 hw0 h_rx1
    refine tn_icmp_ge (tgt := 47) dX8_findFirst_24 (by decide) ⟨by omega, by omega⟩ ⟨by omega, by omega⟩ (fun h2 => ?_) (fun h2 => ?_)
    · exact tn_sub [0, 1, 2] rfl (hx_47 (i2) σ hw (FrC.rfl.trans (FrC.sub hF (by decide))) (by omega))
    · refine tn_aload_n dX8_findFirst_27 rfl 0 rfl ?_
      obtain ⟨x3, hx4, hk5, hl6⟩ : ∃ x : Nat, σ0.2.1 74 a = (x : Int) ∧ AR T x 3 3 3 := wf_74 hw0 h_a
      refine tn_getR (ci := 8) (i := 2) (n := 74) (x := x3) dX8_findFirst_28 rfl lay_8 (by decide) fl8_15 h_a rfl rfl (rc_F hF (Or.inl (by decide)) (by decide) (hx4)) ?_
      refine tn_iconst dX8_findFirst_31 ?_
      refine tn_aload_n dX8_findFirst_32 rfl 1 rfl ?_
      refine tn_iconst dX8_findFirst_33 ?_
      refine tn_iload_n dX8_findFirst_34 rfl 2 rfl ?_
      refine tn_callV (M := m_X8_findFirst) (pc := 35) (ix := 101) (ci := 1) (M' := m_X1_homeOf) (As := [.int (iI 0), .int (iI i2)]) (rest := [.int (iI 0), .ref x3]) dX8_findFirst_35 ok_X1_homeOf im_X1_homeOf se_X1_homeOf ml8_101 np_X1_homeOf rfl rfl h_rx1 rfl (Nat.le_of_ble_eq_true rfl) (Nat.le_of_ble_eq_true rfl) rfl (k_X1_homeOf (d) (T := T) (σ := σ) (a := rx1) (f := 0) (m := i2) h_rx1 (by decide) (by omega) hw ) (fun r7 T9 σ8 gt10 hp => ?_)
      obtain ⟨v12, rfl, rfl, rfl, f11⟩ := hp
      clear gt10
      show Tn _ _ 38 T σ [(0, .ref a), (1, .ref rx1), (2, .int (iI i2))] [.int (iI v12), .int (iI 0), .ref x3] _
      refine tn_callSN (M := m_X8_findFirst) (pc := 38) (ix := 104) (M' := m_X11_include) (As := [.ref x3, .int (iI 0), .int (iI v12)]) (rest := []) dX8_findFirst_38 ok_X11_include stt_X11_include nl8_104 np_X11_include rfl (Nat.le_of_ble_eq_true rfl) (Nat.le_of_ble_eq_true rfl) rfl (k_X11_include (d) (T := T) (σ := σ) (x := x3) (k := 0) (r := v12) hk5 (by omega) (by decide) (by omega) hw ) (fun r13 T15 σ14 gt16 hp => ?_)
      obtain ⟨rfl, rfl, w18, F19⟩ := hp
      clear gt16
      show Tn _ _ 41 T σ14 [(0, .ref a), (1, .ref rx1), (2, .int (iI i2))] [] _
      refine tn_iinc (q0 := 2) (L' := [(2, .int (iI (i2 + 1))), (0, .ref a), (1, .ref rx1)]) dX8_findFirst_41 rfl (by decide) rfl ?_
      refine tn_goto (tgt := 19) dX8_findFirst_44 (by decide) ?_
      exact tn_sub [1, 2, 0] rfl (ih _ (by omega) (i2 + 1) σ14 w18 ((FrC.rfl.trans (FrC.sub hF (by decide))).trans (FrC.sub F19 (by decide))) (by omega) rfl)
theorem dX8_findFirst_47 : decode cX8_findFirst 47 = .ok (.return_, 1) := by decide +kernel
set_option maxRecDepth 20000 in
theorem k_X8_findFirst (d : Nat) {T : CT} {σ : MS} {a : Nat} {p1 : Nat} (ha : OB T a 8) (h_p1 : OB T p1 1) (t_p1 : (T p1).1 = 50) (hw : WT T σ) : Tn (d + 3) m_X8_findFirst 0 T σ [(0, .ref a), (1, .ref p1)] [] (fun ro T2 σ2 => ro = none ∧ T = T2 ∧ WT T2 σ2 ∧ FrC T [] σ σ2) := by
  refine tn_aload_n dX8_findFirst_0 rfl 0 rfl ?_
  obtain ⟨x1, hx2, hk3⟩ : ∃ x : Nat, σ.2.1 72 a = (x : Int) ∧ (T x).1 = 33 := wf_72 hw ha
  have hk3o : OB T x1 3 := ⟨by omega, by rw [hk3]; rfl, by omega⟩
  refine tn_getR (ci := 8) (i := 0) (n := 72) (x := x1) dX8_findFirst_1 rfl lay_8 (by decide) fl8_34 ha rfl rfl (hx2) ?_
  obtain ⟨x5, hx6, hk7, hl8⟩ : ∃ x : Nat, σ.2.1 18 x1 = (x : Int) ∧ AR T x 3 603 603 := wf_18 hw hk3o
  refine tn_getR (ci := 3) (i := 0) (n := 18) (x := x5) dX8_findFirst_4 rfl lay_3 (by decide) fl8_89 hk3o rfl rfl (hx6) ?_
  refine tn_iconst dX8_findFirst_7 ?_
  refine tn_aload_n dX8_findFirst_8 rfl 0 rfl ?_
  obtain ⟨x9, hx10, hk11, hl12⟩ : ∃ x : Nat, σ.2.1 74 a = (x : Int) ∧ AR T x 3 3 3 := wf_74 hw ha
  refine tn_getR (ci := 8) (i := 2) (n := 74) (x := x9) dX8_findFirst_9 rfl lay_8 (by decide) fl8_15 ha rfl rfl (hx10) ?_
  refine tn_iconst dX8_findFirst_12 ?_
  refine tn_iconst dX8_findFirst_13 ?_
  refine tn_acopyL (a := x5) (b := x9) (sp := 0) (dp := 0) (n := 3) dX8_findFirst_14 mla8_92 acNat acSt acIni hk7 hk11 ⟨by omega, by omega⟩ (by omega) (by omega) (by omega) (by omega) (by omega) (by omega) (Nat.le_of_ble_eq_true rfl) (fun fl13 => ?_)
  skip
  refine tn_iconst dX8_findFirst_17 ?_
  refine tn_istore_n (L' := [(2, .int (iI 0)), (0, .ref a), (1, .ref p1)]) dX8_findFirst_18 rfl (by decide) rfl ?_
  refine tn_sub [1, 2, 0] rfl (l_X8_findFirst_19 (d) (T := T) (σ0 := (rowL x9 fl13 σ)) (a := a) (rx1 := p1) ha h_p1 t_p1 (hw.rowL) (fun i214 σ15 w18 F19 r20 => ?_) _ (0) (rowL x9 fl13 σ) (hw.rowL) FrC.rfl (by omega) rfl)
  show Tn _ _ 47 T σ15 [(0, .ref a), (1, .ref p1), (2, .int (iI i214))] [] _
  exact tn_vret rfl dX8_findFirst_47 ⟨rfl, rfl, w18, ((FrC.rfl.rowL).trans (FrC.sub F19 (by decide)))⟩
