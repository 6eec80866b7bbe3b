theorem cd_X5_parameter : Cond.code yX5_parameter cX5_parameter 2 none ∈ pWW := pw3 (List.mem_of_getElem? (i := 104) rfl) rfl
abbrev m_X5_parameter : MT := (yX5_parameter, cX5_parameter, 2, none)
theorem ok_X5_parameter : pOk m_X5_parameter := ⟨⟨cd_X5_parameter, ini_5⟩, by decide +kernel, ⟨by decide +kernel, by decide +kernel⟩, Nat.le_of_ble_eq_true rfl⟩
theorem np_X5_parameter : (parseMethodDescriptor yX5_parameter.desc).map (fun d => d.parameters.length) = some 1 := by decide +kernel
theorem im_X5_parameter : Cond.instanceMethod yX5_parameter ∈ pWW := pw3 (List.mem_of_getElem? (i := 103) rfl) rfl
theorem se_X5_parameter : Cond.selects RX5 yX5_parameter yX5_parameter ∈ pWW := pws (List.mem_map.mpr ⟨_, lw_pin 11 rfl, rfl⟩) rfl
theorem fl5_180 : Cond.fieldLink RX5 180 (TX1 3).1 (TX1 3).2.1 (TX1 3).2.2.1 ∈ pWW := pw1 (List.mem_of_getElem? (i := 98) rfl) rfl
theorem dX5_parameter_0 : decode cX5_parameter 0 = .ok (.aload_n 0, 1) := by decide +kernel
theorem dX5_parameter_1 : decode cX5_parameter 1 = .ok (.aload_n 0, 1) := by decide +kernel
theorem dX5_parameter_2 : decode cX5_parameter 2 = .ok (.getfield 12, 3) := by decide +kernel
theorem dX5_parameter_5 : decode cX5_parameter 5 = .ok (.getfield 96, 3) := by decide +kernel
theorem dX5_parameter_8 : decode cX5_parameter 8 = .ok (.invokevirtual 173, 3) := by decide +kernel
theorem dX5_parameter_11 : decode cX5_parameter 11 = .ok (.iconst (-1), 1) := by decide +kernel
theorem dX5_parameter_12 : decode cX5_parameter 12 = .ok (.if_icmp .eq 15, 3) := by decide +kernel
theorem dX5_parameter_27 : decode cX5_parameter 27 = .ok (.iload_n 1, 1) := by decide +kernel
theorem dX5_parameter_28 : decode cX5_parameter 28 = .ok (.iconst 4, 1) := by decide +kernel
theorem dX5_parameter_29 : decode cX5_parameter 29 = .ok (.if_icmp .le 15, 3) := by decide +kernel
theorem dX5_parameter_44 : decode cX5_parameter 44 = .ok (.aload_n 0, 1) := by decide +kernel
theorem dX5_parameter_45 : decode cX5_parameter 45 = .ok (.invokevirtual 176, 3) := by decide +kernel
theorem dX5_parameter_48 : decode cX5_parameter 48 = .ok (.pop, 1) := by decide +kernel
theorem dX5_parameter_49 : decode cX5_parameter 49 = .ok (.aload_n 0, 1) := by decide +kernel
theorem dX5_parameter_50 : decode cX5_parameter 50 = .ok (.getfield 28, 3) := by decide +kernel
theorem dX5_parameter_53 : decode cX5_parameter 53 = .ok (.aload_n 0, 1) := by decide +kernel
theorem dX5_parameter_54 : decode cX5_parameter 54 = .ok (.getfield 58, 3) := by decide +kernel
theorem dX5_parameter_57 : decode cX5_parameter 57 = .ok (.iconst 1, 1) := by decide +kernel
theorem dX5_parameter_58 : decode cX5_parameter 58 = .ok (.isub, 1) := by decide +kernel
theorem dX5_parameter_59 : decode cX5_parameter 59 = .ok (.iload_n 1, 1) := by decide +kernel
theorem dX5_parameter_60 : decode cX5_parameter 60 = .ok (.invokestatic 129, 3) := by decide +kernel
theorem dX5_parameter_63 : decode cX5_parameter 63 = .ok (.aload_n 0, 1) := by decide +kernel
theorem dX5_parameter_64 : decode cX5_parameter 64 = .ok (.getfield 47, 3) := by decide +kernel
theorem dX5_parameter_67 : decode cX5_parameter 67 = .ok (.iload_n 1, 1) := by decide +kernel
theorem dX5_parameter_68 : decode cX5_parameter 68 = .ok (.iconst 4, 1) := by decide +kernel
theorem dX5_parameter_69 : decode cX5_parameter 69 = .ok (.invokestatic 117, 3) := by decide +kernel
theorem dX5_parameter_72 : decode cX5_parameter 72 = .ok (.putfield 180, 3) := by decide +kernel
theorem dX5_parameter_75 : decode cX5_parameter 75 = .ok (.return_, 1) := by decide +kernel
theorem dX5_parameter_32 : decode cX5_parameter 32 = .ok (.aload_n 0, 1) := by decide +kernel
theorem dX5_parameter_33 : decode cX5_parameter 33 = .ok (.iconst 5, 1) := by decide +kernel
theorem dX5_parameter_34 : decode cX5_parameter 34 = .ok (.aload_n 0, 1) := by decide +kernel
theorem dX5_parameter_35 : decode cX5_parameter 35 = .ok (.getfield 12, 3) := by decide +kernel
theorem dX5_parameter_38 : decode cX5_parameter 38 = .ok (.getfield 74, 3) := by decide +kernel
theorem dX5_parameter_41 : decode cX5_parameter 41 = .ok (.invokevirtual 113, 3) := by decide +kernel
theorem dX5_parameter_15 : decode cX5_parameter 15 = .ok (.aload_n 0, 1) := by decide +kernel
theorem dX5_parameter_16 : decode cX5_parameter 16 = .ok (.iconst 2, 1) := by decide +kernel
theorem dX5_parameter_17 : decode cX5_parameter 17 = .ok (.aload_n 0, 1) := by decide +kernel
theorem dX5_parameter_18 : decode cX5_parameter 18 = .ok (.getfield 12, 3) := by decide +kernel
theorem dX5_parameter_21 : decode cX5_parameter 21 = .ok (.getfield 74, 3) := by decide +kernel
theorem dX5_parameter_24 : decode cX5_parameter 24 = .ok (.invokevirtual 113, 3) := by decide +kernel
set_option maxRecDepth 20000 in
theorem k_X5_parameter (d : Nat) {T : CT} {σ : MS} {a : Nat} {c : Int} (ha : OB T a 5) (h_c : -2147483648 ≤ c ∧ c ≤ 2147483647) (hw : WT T σ) (hc : 1 ≤ c) : Tn (d + 3) m_X5_parameter 0 T σ [(0, .ref a), (1, .int (iI c))] [] (fun ro T2 σ2 => ro = none ∧ T = T2 ∧ WT T2 σ2 ∧ FrC T [7, 8, 43, 44] σ σ2) := by
  refine tn_aload_n dX5_parameter_0 rfl 0 rfl ?_
  refine tn_aload_n dX5_parameter_1 rfl 0 rfl ?_
  obtain ⟨x1, hx2, hk3⟩ : ∃ x : Nat, σ.2.1 33 a = (x : Int) ∧ (T x).1 = 39 := wf_33 hw ha
  have hk3o : OB T x1 9 := ⟨by omega, by rw [hk3]; rfl, by omega⟩
  refine tn_getR (ci := 5) (i := 0) (n := 33) (x := x1) dX5_parameter_2 rfl lay_5 (by decide) fl5_12 ha rfl rfl (hx2) ?_
  refine tn_getI (ci := 9) (i := 5) (n := 86) (t := σ.2.1 86 x1) dX5_parameter_5 rfl lay_9 (by decide) fl5_96 hk3o rfl rfl (rfl) ?_
  have g5 : ((-2147483648 : Int) ≤ σ.2.1 86 x1 ∧ σ.2.1 86 x1 ≤ 2147483647) := wf_86 hw hk3o
  refine tn_callV (M := m_X5_parameter) (pc := 8) (ix := 173) (ci := 5) (M' := m_X5_nameIndex) (As := [.int (iI (σ.2.1 86 x1))]) (rest := []) dX5_parameter_8 ok_X5_nameIndex im_X5_nameIndex se_X5_nameIndex ml5_173 np_X5_nameIndex rfl rfl ha rfl (Nat.le_of_ble_eq_true rfl) (Nat.le_of_ble_eq_true rfl) rfl (k_X5_nameIndex (d + 1) (T := T) (σ := σ) (a := a) (k := σ.2.1 86 x1) ha (by omega) hw ) (fun r6 T8 σ7 gt9 hp => ?_)
  obtain ⟨v11, rfl, rfl, rfl, f10⟩ := hp
  clear gt9
  show Tn _ _ 11 T σ [(0, .ref a), (1, .int (iI c))] [.int (iI v11)] _
  refine tn_iconst dX5_parameter_11 ?_
  refine tn_icmp_eq (tgt := 27) dX5_parameter_12 (by decide) ⟨by omega, by omega⟩ ⟨by decide, by decide⟩ (fun h12 => ?_) (fun h12 => ?_)
  · refine tn_iload_n dX5_parameter_27 rfl 1 rfl ?_
    refine tn_iconst dX5_parameter_28 ?_
    refine tn_icmp_le (tgt := 44) dX5_parameter_29 (by decide) ⟨by omega, by omega⟩ ⟨by decide, by decide⟩ (fun h13 => ?_) (fun h13 => ?_)
    · refine tn_aload_n dX5_parameter_44 rfl 0 rfl ?_
      refine tn_callV (M := m_X5_parameter) (pc := 45) (ix := 176) (ci := 5) (M' := m_X5_register) (As := []) (rest := []) dX5_parameter_45 ok_X5_register im_X5_register se_X5_register ml5_176 np_X5_register rfl rfl ha rfl (Nat.le_of_ble_eq_true rfl) (Nat.le_of_ble_eq_true rfl) rfl (k_X5_register (d) (T := T) (σ := σ) (a := a) ha hw ) (fun r14 T16 σ15 gt17 hp => ?_)
      obtain ⟨v19, rfl, rfl, w20, F21, f18⟩ := hp
      clear gt17
      show Tn _ _ 48 T σ15 [(0, .ref a), (1, .int (iI c))] [.int (iI v19)] _
      refine tn_pop dX5_parameter_48 rfl ?_
      refine tn_aload_n dX5_parameter_49 rfl 0 rfl ?_
      obtain ⟨x22, hx23, hk24, hl25⟩ : ∃ x : Nat, σ.2.1 37 a = (x : Int) ∧ AR T x 1 256 256 := wf_37 hw ha
      have hk24i : IA T x22 := by unfold IA; omega
      refine tn_getR (ci := 5) (i := 4) (n := 37) (x := x22) dX5_parameter_50 rfl lay_5 (by decide) fl5_28 ha rfl rfl (rc_F F21 (Or.inl (by decide)) (by decide) (hx23)) ?_
      refine tn_aload_n dX5_parameter_53 rfl 0 rfl ?_
      refine tn_getI (ci := 5) (i := 5) (n := 38) (t := σ.2.1 38 a) dX5_parameter_54 rfl lay_5 (by decide) fl5_58 ha rfl rfl (rc_F F21 (Or.inl (by decide)) (by decide) (rfl)) ?_
      have g26 : ((0 : Int) ≤ σ.2.1 38 a ∧ σ.2.1 38 a ≤ 256) := wf_38 hw ha
      refine tn_iconst dX5_parameter_57 ?_
      refine tn_isub dX5_parameter_58 ?_
      refine tn_iload_n dX5_parameter_59 rfl 1 rfl ?_
      refine tn_callSN (M := m_X5_parameter) (pc := 60) (ix := 129) (M' := m_X11_put) (As := [.ref x22, .int (iI ((σ.2.1 38 a) - 1)), .int (iI c)]) (rest := []) dX5_parameter_60 ok_X11_put stt_X11_put nl5_129 np_X11_put rfl (Nat.le_of_ble_eq_true rfl) (Nat.le_of_ble_eq_true rfl) rfl (k_X11_put (d + 1) (T := T) (σ := σ15) (x := x22) (i := (σ.2.1 38 a) - 1) (y := c) hk24i (by omega) (by omega) (by omega) w20 ((by have q9 := hk24; omega)) (vok_1 (by have q9 := hk24; omega) (by omega))) (fun r27 T29 σ28 gt30 hp => ?_)
      obtain ⟨rfl, rfl, w32, F33⟩ := hp
      clear gt30
      show Tn _ _ 63 T σ28 [(0, .ref a), (1, .int (iI c))] [] _
      refine tn_aload_n dX5_parameter_63 rfl 0 rfl ?_
      obtain ⟨x34, hx35, hk36⟩ : ∃ x : Nat, σ.2.1 35 a = (x : Int) ∧ (T x).1 = 31 := wf_35 hw ha
      have hk36o : OB T x34 1 := ⟨by omega, by rw [hk36]; rfl, by omega⟩
      refine tn_getR (ci := 5) (i := 2) (n := 35) (x := x34) dX5_parameter_64 rfl lay_5 (by decide) fl5_47 ha rfl rfl (rc_F F33 (Or.inl (by decide)) (by decide) (rc_F F21 (Or.inl (by decide)) (by decide) (hx35))) ?_
      refine tn_iload_n dX5_parameter_67 rfl 1 rfl ?_
      refine tn_iconst dX5_parameter_68 ?_
      refine tn_mmin (x := c) (y := 4) dX5_parameter_69 mlm5_117 stM_min iniM cdM_min (by omega) (Nat.le_of_ble_eq_true rfl) ⟨by omega, by omega⟩ ⟨by omega, by omega⟩ (fun z38 g39 => ?_)
      refine tn_putV (ci := 1) (i := 3) (n := 8) (r := false) (v := z38) tyX1 tyX1_ok nmX1 dX5_parameter_72 rfl lay_1 (by decide) fl5_180 rfl (tyX1_ok 3 (by decide)) rfl rfl rfl hk36o rfl rfl ?_
      exact tn_vret rfl dX5_parameter_75 ⟨rfl, rfl, (w32.put (by decide) (by decide) (fo_8 (by omega))), (((FrC.rfl.trans (FrC.sub F21 (by decide))).trans (FrC.sub F33 (by decide))).put (by decide) (by decide))⟩
    · refine tn_aload_n dX5_parameter_32 rfl 0 rfl ?_
      refine tn_iconst dX5_parameter_33 ?_
      refine tn_aload_n dX5_parameter_34 rfl 0 rfl ?_
      refine tn_getR (ci := 5) (i := 0) (n := 33) (x := x1) dX5_parameter_35 rfl lay_5 (by decide) fl5_12 ha rfl rfl (hx2) ?_
      refine tn_getI (ci := 9) (i := 6) (n := 87) (t := σ.2.1 87 x1) dX5_parameter_38 rfl lay_9 (by decide) fl5_74 hk3o rfl rfl (rfl) ?_
      have g40 : ((-2147483648 : Int) ≤ σ.2.1 87 x1 ∧ σ.2.1 87 x1 ≤ 2147483647) := wf_87 hw hk3o
      refine tn_callV (M := m_X5_parameter) (pc := 41) (ix := 113) (ci := 5) (M' := m_X5_note) (As := [.int (iI 5), .int (iI (σ.2.1 87 x1))]) (rest := []) dX5_parameter_41 ok_X5_note im_X5_note se_X5_note ml5_113 np_X5_note rfl rfl ha rfl (Nat.le_of_ble_eq_true rfl) (Nat.le_of_ble_eq_true rfl) rfl (k_X5_note (d + 1) (T := T) (σ := σ) (a := a) (p1 := 5) (p2 := σ.2.1 87 x1) ha (by decide) (by omega) hw ) (fun r41 T43 σ42 gt44 hp => ?_)
      obtain ⟨rfl, rfl, w46, F47⟩ := hp
      clear gt44
      show Tn _ _ 44 T σ42 [(0, .ref a), (1, .int (iI c))] [] _
      refine tn_aload_n dX5_parameter_44 rfl 0 rfl ?_
      refine tn_callV (M := m_X5_parameter) (pc := 45) (ix := 176) (ci := 5) (M' := m_X5_register) (As := []) (rest := []) dX5_parameter_45 ok_X5_register im_X5_register se_X5_register ml5_176 np_X5_register rfl rfl ha rfl (Nat.le_of_ble_eq_true rfl) (Nat.le_of_ble_eq_true rfl) rfl (k_X5_register (d) (T := T) (σ := σ42) (a := a) ha w46 ) (fun r48 T50 σ49 gt51 hp => ?_)
      obtain ⟨v53, rfl, rfl, w54, F55, f52⟩ := hp
      clear gt51
      show Tn _ _ 48 T σ49 [(0, .ref a), (1, .int (iI c))] [.int (iI v53)] _
      refine tn_pop dX5_parameter_48 rfl ?_
      refine tn_aload_n dX5_parameter_49 rfl 0 rfl ?_
      obtain ⟨x56, hx57, hk58, hl59⟩ : ∃ x : Nat, σ.2.1 37 a = (x : Int) ∧ AR T x 1 256 256 := wf_37 hw ha
      have hk58i : IA T x56 := by unfold IA; omega
      refine tn_getR (ci := 5) (i := 4) (n := 37) (x := x56) dX5_parameter_50 rfl lay_5 (by decide) fl5_28 ha rfl rfl (rc_F F55 (Or.inl (by decide)) (by decide) (rc_F F47 (Or.inl (by decide)) (by decide) (hx57))) ?_
      refine tn_aload_n dX5_parameter_53 rfl 0 rfl ?_
      refine tn_getI (ci := 5) (i := 5) (n := 38) (t := σ.2.1 38 a) dX5_parameter_54 rfl lay_5 (by decide) fl5_58 ha rfl rfl (rc_F F55 (Or.inl (by decide)) (by decide) (rc_F F47 (Or.inl (by decide)) (by decide) (rfl))) ?_
      have g60 : ((0 : Int) ≤ σ.2.1 38 a ∧ σ.2.1 38 a ≤ 256) := wf_38 hw ha
      refine tn_iconst dX5_parameter_57 ?_
      refine tn_isub dX5_parameter_58 ?_
      refine tn_iload_n dX5_parameter_59 rfl 1 rfl ?_
      refine tn_callSN (M := m_X5_parameter) (pc := 60) (ix := 129) (M' := m_X11_put) (As := [.ref x56, .int (iI ((σ.2.1 38 a) - 1)), .int (iI c)]) (rest := []) dX5_parameter_60 ok_X11_put stt_X11_put nl5_129 np_X11_put rfl (Nat.le_of_ble_eq_true rfl) (Nat.le_of_ble_eq_true rfl) rfl (k_X11_put (d + 1) (T := T) (σ := σ49) (x := x56) (i := (σ.2.1 38 a) - 1) (y := c) hk58i (by omega) (by omega) (by omega) w54 ((by have q9 := hk58; omega)) (vok_1 (by have q9 := hk58; omega) (by omega))) (fun r61 T63 σ62 gt64 hp => ?_)
      obtain ⟨rfl, rfl, w66, F67⟩ := hp
      clear gt64
      show Tn _ _ 63 T σ62 [(0, .ref a), (1, .int (iI c))] [] _
      refine tn_aload_n dX5_parameter_63 rfl 0 rfl ?_
      obtain ⟨x68, hx69, hk70⟩ : ∃ x : Nat, σ.2.1 35 a = (x : Int) ∧ (T x).1 = 31 := wf_35 hw ha
      have hk70o : OB T x68 1 := ⟨by omega, by rw [hk70]; rfl, by omega⟩
      refine tn_getR (ci := 5) (i := 2) (n := 35) (x := x68) dX5_parameter_64 rfl lay_5 (by decide) fl5_47 ha rfl rfl (rc_F F67 (Or.inl (by decide)) (by decide) (rc_F F55 (Or.inl (by decide)) (by decide) (rc_F F47 (Or.inl (by decide)) (by decide) (hx69)))) ?_
      refine tn_iload_n dX5_parameter_67 rfl 1 rfl ?_
      refine tn_iconst dX5_parameter_68 ?_
      refine tn_mmin (x := c) (y := 4) dX5_parameter_69 mlm5_117 stM_min iniM cdM_min (by omega) (Nat.le_of_ble_eq_true rfl) ⟨by omega, by omega⟩ ⟨by omega, by omega⟩ (fun z72 g73 => ?_)
      refine tn_putV (ci := 1) (i := 3) (n := 8) (r := false) (v := z72) tyX1 tyX1_ok nmX1 dX5_parameter_72 rfl lay_1 (by decide) fl5_180 rfl (tyX1_ok 3 (by decide)) rfl rfl rfl hk70o rfl rfl ?_
      exact tn_vret rfl dX5_parameter_75 ⟨rfl, rfl, (w66.put (by decide) (by decide) (fo_8 (by omega))), ((((FrC.rfl.trans (FrC.sub F47 (by decide))).trans (FrC.sub F55 (by decide))).trans (FrC.sub F67 (by decide))).put (by decide) (by decide))⟩
  · refine tn_aload_n dX5_parameter_15 rfl 0 rfl ?_
    refine tn_iconst dX5_parameter_16 ?_
    refine tn_aload_n dX5_parameter_17 rfl 0 rfl ?_
    refine tn_getR (ci := 5) (i := 0) (n := 33) (x := x1) dX5_parameter_18 rfl lay_5 (by decide) fl5_12 ha rfl rfl (hx2) ?_
    refine tn_getI (ci := 9) (i := 6) (n := 87) (t := σ.2.1 87 x1) dX5_parameter_21 rfl lay_9 (by decide) fl5_74 hk3o rfl rfl (rfl) ?_
    have g74 : ((-2147483648 : Int) ≤ σ.2.1 87 x1 ∧ σ.2.1 87 x1 ≤ 2147483647) := wf_87 hw hk3o
    refine tn_callV (M := m_X5_parameter) (pc := 24) (ix := 113) (ci := 5) (M' := m_X5_note) (As := [.int (iI 2), .int (iI (σ.2.1 87 x1))]) (rest := []) dX5_parameter_24 ok_X5_note im_X5_note se_X5_note ml5_113 np_X5_note rfl rfl ha rfl (Nat.le_of_ble_eq_true rfl) (Nat.le_of_ble_eq_true rfl) rfl (k_X5_note (d + 1) (T := T) (σ := σ) (a := a) (p1 := 2) (p2 := σ.2.1 87 x1) ha (by decide) (by omega) hw ) (fun r75 T77 σ76 gt78 hp => ?_)
    obtain ⟨rfl, rfl, w80, F81⟩ := hp
    clear gt78
    show Tn _ _ 27 T σ76 [(0, .ref a), (1, .int (iI c))] [] _
    refine tn_iload_n dX5_parameter_27 rfl 1 rfl ?_
    refine tn_iconst dX5_parameter_28 ?_
    refine tn_icmp_le (tgt := 44) dX5_parameter_29 (by decide) ⟨by omega, by omega⟩ ⟨by decide, by decide⟩ (fun h82 => ?_) (fun h82 => ?_)
    · refine tn_aload_n dX5_parameter_44 rfl 0 rfl ?_
      refine tn_callV (M := m_X5_parameter) (pc := 45) (ix := 176) (ci := 5) (M' := m_X5_register) (As := []) (rest := []) dX5_parameter_45 ok_X5_register im_X5_register se_X5_register ml5_176 np_X5_register rfl rfl ha rfl (Nat.le_of_ble_eq_true rfl) (Nat.le_of_ble_eq_true rfl) rfl (k_X5_register (d) (T := T) (σ := σ76) (a := a) ha w80 ) (fun r83 T85 σ84 gt86 hp => ?_)
      obtain ⟨v88, rfl, rfl, w89, F90, f87⟩ := hp
      clear gt86
      show Tn _ _ 48 T σ84 [(0, .ref a), (1, .int (iI c))] [.int (iI v88)] _
      refine tn_pop dX5_parameter_48 rfl ?_
      refine tn_aload_n dX5_parameter_49 rfl 0 rfl ?_
      obtain ⟨x91, hx92, hk93, hl94⟩ : ∃ x : Nat, σ.2.1 37 a = (x : Int) ∧ AR T x 1 256 256 := wf_37 hw ha
      have hk93i : IA T x91 := by unfold IA; omega
      refine tn_getR (ci := 5) (i := 4) (n := 37) (x := x91) dX5_parameter_50 rfl lay_5 (by decide) fl5_28 ha rfl rfl (rc_F F90 (Or.inl (by decide)) (by decide) (rc_F F81 (Or.inl (by decide)) (by decide) (hx92))) ?_
      refine tn_aload_n dX5_parameter_53 rfl 0 rfl ?_
      refine tn_getI (ci := 5) (i := 5) (n := 38) (t := σ.2.1 38 a) dX5_parameter_54 rfl lay_5 (by decide) fl5_58 ha rfl rfl (rc_F F90 (Or.inl (by decide)) (by decide) (rc_F F81 (Or.inl (by decide)) (by decide) (rfl))) ?_
      have g95 : ((0 : Int) ≤ σ.2.1 38 a ∧ σ.2.1 38 a ≤ 256) := wf_38 hw ha
      refine tn_iconst dX5_parameter_57 ?_
      refine tn_isub dX5_parameter_58 ?_
      refine tn_iload_n dX5_parameter_59 rfl 1 rfl ?_
      refine tn_callSN (M := m_X5_parameter) (pc := 60) (ix := 129) (M' := m_X11_put) (As := [.ref x91, .int (iI ((σ.2.1 38 a) - 1)), .int (iI c)]) (rest := []) dX5_parameter_60 ok_X11_put stt_X11_put nl5_129 np_X11_put rfl (Nat.le_of_ble_eq_true rfl) (Nat.le_of_ble_eq_true rfl) rfl (k_X11_put (d + 1) (T := T) (σ := σ84) (x := x91) (i := (σ.2.1 38 a) - 1) (y := c) hk93i (by omega) (by omega) (by omega) w89 ((by have q9 := hk93; omega)) (vok_1 (by have q9 := hk93; omega) (by omega))) (fun r96 T98 σ97 gt99 hp => ?_)
      obtain ⟨rfl, rfl, w101, F102⟩ := hp
      clear gt99
      show Tn _ _ 63 T σ97 [(0, .ref a), (1, .int (iI c))] [] _
      refine tn_aload_n dX5_parameter_63 rfl 0 rfl ?_
      obtain ⟨x103, hx104, hk105⟩ : ∃ x : Nat, σ.2.1 35 a = (x : Int) ∧ (T x).1 = 31 := wf_35 hw ha
      have hk105o : OB T x103 1 := ⟨by omega, by rw [hk105]; rfl, by omega⟩
      refine tn_getR (ci := 5) (i := 2) (n := 35) (x := x103) dX5_parameter_64 rfl lay_5 (by decide) fl5_47 ha rfl rfl (rc_F F102 (Or.inl (by decide)) (by decide) (rc_F F90 (Or.inl (by decide)) (by decide) (rc_F F81 (Or.inl (by decide)) (by decide) (hx104)))) ?_
      refine tn_iload_n dX5_parameter_67 rfl 1 rfl ?_
      refine tn_iconst dX5_parameter_68 ?_
      refine tn_mmin (x := c) (y := 4) dX5_parameter_69 mlm5_117 stM_min iniM cdM_min (by omega) (Nat.le_of_ble_eq_true rfl) ⟨by omega, by omega⟩ ⟨by omega, by omega⟩ (fun z107 g108 => ?_)
      refine tn_putV (ci := 1) (i := 3) (n := 8) (r := false) (v := z107) tyX1 tyX1_ok nmX1 dX5_parameter_72 rfl lay_1 (by decide) fl5_180 rfl (tyX1_ok 3 (by decide)) rfl rfl rfl hk105o rfl rfl ?_
      exact tn_vret rfl dX5_parameter_75 ⟨rfl, rfl, (w101.put (by decide) (by decide) (fo_8 (by omega))), ((((FrC.rfl.trans (FrC.sub F81 (by decide))).trans (FrC.sub F90 (by decide))).trans (FrC.sub F102 (by decide))).put (by decide) (by decide))⟩
    · refine tn_aload_n dX5_parameter_32 rfl 0 rfl ?_
      refine tn_iconst dX5_parameter_33 ?_
      refine tn_aload_n dX5_parameter_34 rfl 0 rfl ?_
      refine tn_getR (ci := 5) (i := 0) (n := 33) (x := x1) dX5_parameter_35 rfl lay_5 (by decide) fl5_12 ha rfl rfl (rc_F F81 (Or.inl (by decide)) (by decide) (hx2)) ?_
      refine tn_getI (ci := 9) (i := 6) (n := 87) (t := σ.2.1 87 x1) dX5_parameter_38 rfl lay_9 (by decide) fl5_74 hk3o rfl rfl (rc_F F81 (Or.inl (by decide)) (by decide) (rfl)) ?_
      refine tn_callV (M := m_X5_parameter) (pc := 41) (ix := 113) (ci := 5) (M' := m_X5_note) (As := [.int (iI 5), .int (iI (σ.2.1 87 x1))]) (rest := []) dX5_parameter_41 ok_X5_note im_X5_note se_X5_note ml5_113 np_X5_note rfl rfl ha rfl (Nat.le_of_ble_eq_true rfl) (Nat.le_of_ble_eq_true rfl) rfl (k_X5_note (d + 1) (T := T) (σ := σ76) (a := a) (p1 := 5) (p2 := σ.2.1 87 x1) ha (by decide) (by omega) w80 ) (fun r109 T111 σ110 gt112 hp => ?_)
      obtain ⟨rfl, rfl, w114, F115⟩ := hp
      clear gt112
      show Tn _ _ 44 T σ110 [(0, .ref a), (1, .int (iI c))] [] _
      refine tn_aload_n dX5_parameter_44 rfl 0 rfl ?_
      refine tn_callV (M := m_X5_parameter) (pc := 45) (ix := 176) (ci := 5) (M' := m_X5_register) (As := []) (rest := []) dX5_parameter_45 ok_X5_register im_X5_register se_X5_register ml5_176 np_X5_register rfl rfl ha rfl (Nat.le_of_ble_eq_true rfl) (Nat.le_of_ble_eq_true rfl) rfl (k_X5_register (d) (T := T) (σ := σ110) (a := a) ha w114 ) (fun r116 T118 σ117 gt119 hp => ?_)
      obtain ⟨v121, rfl, rfl, w122, F123, f120⟩ := hp
      clear gt119
      show Tn _ _ 48 T σ117 [(0, .ref a), (1, .int (iI c))] [.int (iI v121)] _
      refine tn_pop dX5_parameter_48 rfl ?_
      refine tn_aload_n dX5_parameter_49 rfl 0 rfl ?_
      obtain ⟨x124, hx125, hk126, hl127⟩ : ∃ x : Nat, σ.2.1 37 a = (x : Int) ∧ AR T x 1 256 256 := wf_37 hw ha
      have hk126i : IA T x124 := by unfold IA; omega
      refine tn_getR (ci := 5) (i := 4) (n := 37) (x := x124) dX5_parameter_50 rfl lay_5 (by decide) fl5_28 ha rfl rfl (rc_F F123 (Or.inl (by decide)) (by decide) (rc_F F115 (Or.inl (by decide)) (by decide) (rc_F F81 (Or.inl (by decide)) (by decide) (hx125)))) ?_
      refine tn_aload_n dX5_parameter_53 rfl 0 rfl ?_
      refine tn_getI (ci := 5) (i := 5) (n := 38) (t := σ.2.1 38 a) dX5_parameter_54 rfl lay_5 (by decide) fl5_58 ha rfl rfl (rc_F F123 (Or.inl (by decide)) (by decide) (rc_F F115 (Or.inl (by decide)) (by decide) (rc_F F81 (Or.inl (by decide)) (by decide) (rfl)))) ?_
      have g128 : ((0 : Int) ≤ σ.2.1 38 a ∧ σ.2.1 38 a ≤ 256) := wf_38 hw ha
      refine tn_iconst dX5_parameter_57 ?_
      refine tn_isub dX5_parameter_58 ?_
      refine tn_iload_n dX5_parameter_59 rfl 1 rfl ?_
      refine tn_callSN (M := m_X5_parameter) (pc := 60) (ix := 129) (M' := m_X11_put) (As := [.ref x124, .int (iI ((σ.2.1 38 a) - 1)), .int (iI c)]) (rest := []) dX5_parameter_60 ok_X11_put stt_X11_put nl5_129 np_X11_put rfl (Nat.le_of_ble_eq_true rfl) (Nat.le_of_ble_eq_true rfl) rfl (k_X11_put (d + 1) (T := T) (σ := σ117) (x := x124) (i := (σ.2.1 38 a) - 1) (y := c) hk126i (by omega) (by omega) (by omega) w122 ((by have q9 := hk126; omega)) (vok_1 (by have q9 := hk126; omega) (by omega))) (fun r129 T131 σ130 gt132 hp => ?_)
      obtain ⟨rfl, rfl, w134, F135⟩ := hp
      clear gt132
      show Tn _ _ 63 T σ130 [(0, .ref a), (1, .int (iI c))] [] _
      refine tn_aload_n dX5_parameter_63 rfl 0 rfl ?_
      obtain ⟨x136, hx137, hk138⟩ : ∃ x : Nat, σ.2.1 35 a = (x : Int) ∧ (T x).1 = 31 := wf_35 hw ha
      have hk138o : OB T x136 1 := ⟨by omega, by rw [hk138]; rfl, by omega⟩
      refine tn_getR (ci := 5) (i := 2) (n := 35) (x := x136) dX5_parameter_64 rfl lay_5 (by decide) fl5_47 ha rfl rfl (rc_F F135 (Or.inl (by decide)) (by decide) (rc_F F123 (Or.inl (by decide)) (by decide) (rc_F F115 (Or.inl (by decide)) (by decide) (rc_F F81 (Or.inl (by decide)) (by decide) (hx137))))) ?_
      refine tn_iload_n dX5_parameter_67 rfl 1 rfl ?_
      refine tn_iconst dX5_parameter_68 ?_
      refine tn_mmin (x := c) (y := 4) dX5_parameter_69 mlm5_117 stM_min iniM cdM_min (by omega) (Nat.le_of_ble_eq_true rfl) ⟨by omega, by omega⟩ ⟨by omega, by omega⟩ (fun z140 g141 => ?_)
      refine tn_putV (ci := 1) (i := 3) (n := 8) (r := false) (v := z140) tyX1 tyX1_ok nmX1 dX5_parameter_72 rfl lay_1 (by decide) fl5_180 rfl (tyX1_ok 3 (by decide)) rfl rfl rfl hk138o rfl rfl ?_
      exact tn_vret rfl dX5_parameter_75 ⟨rfl, rfl, (w134.put (by decide) (by decide) (fo_8 (by omega))), (((((FrC.rfl.trans (FrC.sub F81 (by decide))).trans (FrC.sub F115 (by decide))).trans (FrC.sub F123 (by decide))).trans (FrC.sub F135 (by decide))).put (by decide) (by decide))⟩
