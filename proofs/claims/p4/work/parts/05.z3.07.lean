theorem cd_X5_register : Cond.code yX5_register cX5_register 2 (some .int) ∈ pWW := pw3 (List.mem_of_getElem? (i := 112) rfl) rfl
abbrev m_X5_register : MT := (yX5_register, cX5_register, 2, (some .int))
theorem ok_X5_register : pOk m_X5_register := ⟨⟨cd_X5_register, ini_5⟩, by decide +kernel, ⟨by decide +kernel, by decide +kernel⟩, Nat.le_of_ble_eq_true rfl⟩
theorem np_X5_register : (parseMethodDescriptor yX5_register.desc).map (fun d => d.parameters.length) = some 0 := by decide +kernel
theorem im_X5_register : Cond.instanceMethod yX5_register ∈ pWW := pw3 (List.mem_of_getElem? (i := 111) rfl) rfl
theorem se_X5_register : Cond.selects RX5 yX5_register yX5_register ∈ pWW := pws (List.mem_map.mpr ⟨_, lw_pin 13 rfl, rfl⟩) rfl
theorem fl5_96 : Cond.fieldLink RX5 96 (TX9 5).1 (TX9 5).2.1 (TX9 5).2.2.1 ∈ pWW := pw1 (List.mem_of_getElem? (i := 51) rfl) rfl
theorem ml5_173 : Cond.methodLink RX5 173 yX5_nameIndex ∈ pWW := pw3 (List.mem_of_getElem? (i := 105) rfl) rfl
theorem nl5_129 : (RX5, 129, yX11_put, "LineKeeper") ∈ nst_M := List.mem_of_getElem? (i := 9) rfl
theorem ml5_113 : Cond.methodLink RX5 113 yX5_note ∈ pWW := pw3 (List.mem_of_getElem? (i := 80) rfl) rfl
theorem dX5_register_0 : decode cX5_register 0 = .ok (.aload_n 0, 1) := by decide +kernel
theorem dX5_register_1 : decode cX5_register 1 = .ok (.aload_n 0, 1) := by decide +kernel
theorem dX5_register_2 : decode cX5_register 2 = .ok (.getfield 12, 3) := by decide +kernel
theorem dX5_register_5 : decode cX5_register 5 = .ok (.getfield 96, 3) := by decide +kernel
theorem dX5_register_8 : decode cX5_register 8 = .ok (.invokevirtual 173, 3) := by decide +kernel
theorem dX5_register_11 : decode cX5_register 11 = .ok (.istore_n 1, 1) := by decide +kernel
theorem dX5_register_12 : decode cX5_register 12 = .ok (.iload_n 1, 1) := by decide +kernel
theorem dX5_register_13 : decode cX5_register 13 = .ok (.iconst (-1), 1) := by decide +kernel
theorem dX5_register_14 : decode cX5_register 14 = .ok (.if_icmp .eq 5, 3) := by decide +kernel
theorem dX5_register_19 : decode cX5_register 19 = .ok (.aload_n 0, 1) := by decide +kernel
theorem dX5_register_20 : decode cX5_register 20 = .ok (.getfield 47, 3) := by decide +kernel
theorem dX5_register_23 : decode cX5_register 23 = .ok (.getfield 152, 3) := by decide +kernel
theorem dX5_register_26 : decode cX5_register 26 = .ok (.bipush 12, 2) := by decide +kernel
theorem dX5_register_28 : decode cX5_register 28 = .ok (.if_icmp .lt 17, 3) := by decide +kernel
theorem dX5_register_45 : decode cX5_register 45 = .ok (.aload_n 0, 1) := by decide +kernel
theorem dX5_register_46 : decode cX5_register 46 = .ok (.getfield 40, 3) := by decide +kernel
theorem dX5_register_49 : decode cX5_register 49 = .ok (.aload_n 0, 1) := by decide +kernel
theorem dX5_register_50 : decode cX5_register 50 = .ok (.getfield 47, 3) := by decide +kernel
theorem dX5_register_53 : decode cX5_register 53 = .ok (.getfield 152, 3) := by decide +kernel
theorem dX5_register_56 : decode cX5_register 56 = .ok (.aload_n 0, 1) := by decide +kernel
theorem dX5_register_57 : decode cX5_register 57 = .ok (.getfield 12, 3) := by decide +kernel
theorem dX5_register_60 : decode cX5_register 60 = .ok (.getfield 96, 3) := by decide +kernel
theorem dX5_register_63 : decode cX5_register 63 = .ok (.invokestatic 129, 3) := by decide +kernel
theorem dX5_register_66 : decode cX5_register 66 = .ok (.aload_n 0, 1) := by decide +kernel
theorem dX5_register_67 : decode cX5_register 67 = .ok (.getfield 47, 3) := by decide +kernel
theorem dX5_register_70 : decode cX5_register 70 = .ok (.dup, 1) := by decide +kernel
theorem dX5_register_71 : decode cX5_register 71 = .ok (.getfield 152, 3) := by decide +kernel
theorem dX5_register_74 : decode cX5_register 74 = .ok (.iconst 1, 1) := by decide +kernel
theorem dX5_register_75 : decode cX5_register 75 = .ok (.iadd, 1) := by decide +kernel
theorem dX5_register_76 : decode cX5_register 76 = .ok (.putfield 152, 3) := by decide +kernel
theorem dX5_register_79 : decode cX5_register 79 = .ok (.aload_n 0, 1) := by decide +kernel
theorem dX5_register_80 : decode cX5_register 80 = .ok (.getfield 47, 3) := by decide +kernel
theorem dX5_register_83 : decode cX5_register 83 = .ok (.getfield 152, 3) := by decide +kernel
theorem dX5_register_86 : decode cX5_register 86 = .ok (.iconst 1, 1) := by decide +kernel
theorem dX5_register_87 : decode cX5_register 87 = .ok (.isub, 1) := by decide +kernel
theorem dX5_register_88 : decode cX5_register 88 = .ok (.ireturn, 1) := by decide +kernel
theorem dX5_register_31 : decode cX5_register 31 = .ok (.aload_n 0, 1) := by decide +kernel
theorem dX5_register_32 : decode cX5_register 32 = .ok (.iconst 5, 1) := by decide +kernel
theorem dX5_register_33 : decode cX5_register 33 = .ok (.aload_n 0, 1) := by decide +kernel
theorem dX5_register_34 : decode cX5_register 34 = .ok (.getfield 12, 3) := by decide +kernel
theorem dX5_register_37 : decode cX5_register 37 = .ok (.getfield 74, 3) := by decide +kernel
theorem dX5_register_40 : decode cX5_register 40 = .ok (.invokevirtual 113, 3) := by decide +kernel
theorem dX5_register_43 : decode cX5_register 43 = .ok (.iconst 0, 1) := by decide +kernel
theorem dX5_register_44 : decode cX5_register 44 = .ok (.ireturn, 1) := by decide +kernel
theorem dX5_register_17 : decode cX5_register 17 = .ok (.iload_n 1, 1) := by decide +kernel
theorem dX5_register_18 : decode cX5_register 18 = .ok (.ireturn, 1) := by decide +kernel
set_option maxRecDepth 20000 in
theorem k_X5_register (d : Nat) {T : CT} {σ : MS} {a : Nat} (ha : OB T a 5) (hw : WT T σ) : Tn (d + 2) m_X5_register 0 T σ [(0, .ref a)] [] (fun ro T2 σ2 => ∃ v : Int, ro = some (.int (iI v)) ∧ T = T2 ∧ WT T2 σ2 ∧ FrC T [7, 43, 44, 521] σ σ2 ∧ (-2147483648 ≤ v ∧ v ≤ 2147483647)) := by
  refine tn_aload_n dX5_register_0 rfl 0 rfl ?_
  refine tn_aload_n dX5_register_1 rfl 0 rfl ?_
  obtain ⟨x1, hx2, hk3⟩ : ∃ x : Nat, σ.2.1 33 a = (x : Int) ∧ (T x).1 = 39 := wf_33 hw ha
  have hk3o : OB T x1 9 := ⟨by omega, by rw [hk3]; rfl, by omega⟩
  refine tn_getR (ci := 5) (i := 0) (n := 33) (x := x1) dX5_register_2 rfl lay_5 (by decide) fl5_12 ha rfl rfl (hx2) ?_
  refine tn_getI (ci := 9) (i := 5) (n := 86) (t := σ.2.1 86 x1) dX5_register_5 rfl lay_9 (by decide) fl5_96 hk3o rfl rfl (rfl) ?_
  have g5 : ((-2147483648 : Int) ≤ σ.2.1 86 x1 ∧ σ.2.1 86 x1 ≤ 2147483647) := wf_86 hw hk3o
  refine tn_callV (M := m_X5_register) (pc := 8) (ix := 173) (ci := 5) (M' := m_X5_nameIndex) (As := [.int (iI (σ.2.1 86 x1))]) (rest := []) dX5_register_8 ok_X5_nameIndex im_X5_nameIndex se_X5_nameIndex ml5_173 np_X5_nameIndex rfl rfl ha rfl (Nat.le_of_ble_eq_true rfl) (Nat.le_of_ble_eq_true rfl) rfl (k_X5_nameIndex (d) (T := T) (σ := σ) (a := a) (k := σ.2.1 86 x1) ha (by omega) hw ) (fun r6 T8 σ7 gt9 hp => ?_)
  obtain ⟨v11, rfl, rfl, rfl, f10⟩ := hp
  clear gt9
  show Tn _ _ 11 T σ [(0, .ref a)] [.int (iI v11)] _
  refine tn_istore_n (L' := [(1, .int (iI v11)), (0, .ref a)]) dX5_register_11 rfl (by decide) rfl ?_
  refine tn_iload_n dX5_register_12 rfl 0 rfl ?_
  refine tn_iconst dX5_register_13 ?_
  refine tn_icmp_eq (tgt := 19) dX5_register_14 (by decide) ⟨by omega, by omega⟩ ⟨by decide, by decide⟩ (fun h12 => ?_) (fun h12 => ?_)
  · refine tn_aload_n dX5_register_19 rfl 1 rfl ?_
    obtain ⟨x13, hx14, hk15⟩ : ∃ x : Nat, σ.2.1 35 a = (x : Int) ∧ (T x).1 = 31 := wf_35 hw ha
    have hk15o : OB T x13 1 := ⟨by omega, by rw [hk15]; rfl, by omega⟩
    refine tn_getR (ci := 5) (i := 2) (n := 35) (x := x13) dX5_register_20 rfl lay_5 (by decide) fl5_47 ha rfl rfl (hx14) ?_
    refine tn_getI (ci := 1) (i := 2) (n := 7) (t := σ.2.1 7 x13) dX5_register_23 rfl lay_1 (by decide) fl5_152 hk15o rfl rfl (rfl) ?_
    have g17 : ((0 : Int) ≤ σ.2.1 7 x13 ∧ σ.2.1 7 x13 ≤ 12) := wf_7 hw hk15o
    refine tn_bipush dX5_register_26 (by decide) ?_
    refine tn_icmp_lt (tgt := 45) dX5_register_28 (by decide) ⟨by omega, by omega⟩ ⟨by decide, by decide⟩ (fun h18 => ?_) (fun h18 => ?_)
    · refine tn_aload_n dX5_register_45 rfl 1 rfl ?_
      obtain ⟨x19, hx20, hk21, hl22⟩ : ∃ x : Nat, σ.2.1 48 a = (x : Int) ∧ AR T x 21 12 12 := wf_48 hw ha
      have hk21i : IA T x19 := by unfold IA; omega
      refine tn_getR (ci := 5) (i := 15) (n := 48) (x := x19) dX5_register_46 rfl lay_5 (by decide) fl5_40 ha rfl rfl (hx20) ?_
      refine tn_aload_n dX5_register_49 rfl 1 rfl ?_
      refine tn_getR (ci := 5) (i := 2) (n := 35) (x := x13) dX5_register_50 rfl lay_5 (by decide) fl5_47 ha rfl rfl (hx14) ?_
      refine tn_getI (ci := 1) (i := 2) (n := 7) (t := σ.2.1 7 x13) dX5_register_53 rfl lay_1 (by decide) fl5_152 hk15o rfl rfl (rfl) ?_
      refine tn_aload_n dX5_register_56 rfl 1 rfl ?_
      refine tn_getR (ci := 5) (i := 0) (n := 33) (x := x1) dX5_register_57 rfl lay_5 (by decide) fl5_12 ha rfl rfl (hx2) ?_
      refine tn_getI (ci := 9) (i := 5) (n := 86) (t := σ.2.1 86 x1) dX5_register_60 rfl lay_9 (by decide) fl5_96 hk3o rfl rfl (rfl) ?_
      refine tn_callSN (M := m_X5_register) (pc := 63) (ix := 129) (M' := m_X11_put) (As := [.ref x19, .int (iI (σ.2.1 7 x13)), .int (iI (σ.2.1 86 x1))]) (rest := []) dX5_register_63 ok_X11_put stt_X11_put nl5_129 np_X11_put rfl (Nat.le_of_ble_eq_true rfl) (Nat.le_of_ble_eq_true rfl) rfl (k_X11_put_21 (d) (T := T) (σ := σ) (x := x19) (i := σ.2.1 7 x13) (y := σ.2.1 86 x1) hk21i (by omega) hk21 (by omega) (by omega) hw ) (fun r23 T25 σ24 gt26 hp => ?_)
      obtain ⟨rfl, rfl, w29, F30, f27⟩ := hp
      clear gt26
      show Tn _ _ 66 T σ24 [(1, .int (iI v11)), (0, .ref a)] [] _
      refine tn_aload_n dX5_register_66 rfl 1 rfl ?_
      refine tn_getR (ci := 5) (i := 2) (n := 35) (x := x13) dX5_register_67 rfl lay_5 (by decide) fl5_47 ha rfl rfl (rc_F F30 (Or.inl (by decide)) (by decide) (hx14)) ?_
      refine tn_dup dX5_register_70 rfl ?_
      refine tn_getI (ci := 1) (i := 2) (n := 7) (t := σ.2.1 7 x13) dX5_register_71 rfl lay_1 (by decide) fl5_152 hk15o rfl rfl (rc_F F30 (Or.inl (by decide)) (by decide) (rfl)) ?_
      refine tn_iconst dX5_register_74 ?_
      refine tn_iadd dX5_register_75 ?_
      refine tn_putV (ci := 1) (i := 2) (n := 7) (r := false) (v := (σ.2.1 7 x13) + 1) tyX1 tyX1_ok nmX1 dX5_register_76 rfl lay_1 (by decide) fl5_152 rfl (tyX1_ok 2 (by decide)) rfl rfl rfl hk15o rfl rfl ?_
      refine tn_aload_n dX5_register_79 rfl 1 rfl ?_
      refine tn_getR (ci := 5) (i := 2) (n := 35) (x := x13) dX5_register_80 rfl lay_5 (by decide) fl5_47 ha rfl rfl (rc_o (by decide) (rc_F F30 (Or.inl (by decide)) (by decide) (hx14))) ?_
      refine tn_getI (ci := 1) (i := 2) (n := 7) (t := (σ.2.1 7 x13) + 1) dX5_register_83 rfl lay_1 (by decide) fl5_152 hk15o rfl rfl (ra_eq) ?_
      refine tn_iconst dX5_register_86 ?_
      refine tn_isub dX5_register_87 ?_
      exact tn_iret rfl dX5_register_88 ⟨_, rfl, rfl, (w29.put (by decide) (by decide) (fo_7 (by omega))), ((FrC.rfl.trans (FrC.sub F30 (by decide))).put (by decide) (by decide)), by omega⟩
    · refine tn_aload_n dX5_register_31 rfl 1 rfl ?_
      refine tn_iconst dX5_register_32 ?_
      refine tn_aload_n dX5_register_33 rfl 1 rfl ?_
      refine tn_getR (ci := 5) (i := 0) (n := 33) (x := x1) dX5_register_34 rfl lay_5 (by decide) fl5_12 ha rfl rfl (hx2) ?_
      refine tn_getI (ci := 9) (i := 6) (n := 87) (t := σ.2.1 87 x1) dX5_register_37 rfl lay_9 (by decide) fl5_74 hk3o rfl rfl (rfl) ?_
      have g31 : ((-2147483648 : Int) ≤ σ.2.1 87 x1 ∧ σ.2.1 87 x1 ≤ 2147483647) := wf_87 hw hk3o
      refine tn_callV (M := m_X5_register) (pc := 40) (ix := 113) (ci := 5) (M' := m_X5_note) (As := [.int (iI 5), .int (iI (σ.2.1 87 x1))]) (rest := []) dX5_register_40 ok_X5_note im_X5_note se_X5_note ml5_113 np_X5_note rfl rfl ha rfl (Nat.le_of_ble_eq_true rfl) (Nat.le_of_ble_eq_true rfl) rfl (k_X5_note (d) (T := T) (σ := σ) (a := a) (p1 := 5) (p2 := σ.2.1 87 x1) ha (by decide) (by omega) hw ) (fun r32 T34 σ33 gt35 hp => ?_)
      obtain ⟨rfl, rfl, w37, F38⟩ := hp
      clear gt35
      show Tn _ _ 43 T σ33 [(1, .int (iI v11)), (0, .ref a)] [] _
      refine tn_iconst dX5_register_43 ?_
      exact tn_iret rfl dX5_register_44 ⟨_, rfl, rfl, w37, (FrC.rfl.trans (FrC.sub F38 (by decide))), by omega⟩
  · refine tn_iload_n dX5_register_17 rfl 0 rfl ?_
    exact tn_iret rfl dX5_register_18 ⟨_, rfl, rfl, hw, FrC.rfl, by omega⟩
