theorem cd_X5_parameters : Cond.code yX5_parameters cX5_parameters 2 (some .boolean) ∈ pWW := pw3 (List.mem_of_getElem? (i := 100) rfl) rfl
abbrev m_X5_parameters : MT := (yX5_parameters, cX5_parameters, 2, (some .boolean))
theorem ok_X5_parameters : pOk m_X5_parameters := ⟨⟨cd_X5_parameters, ini_5⟩, by decide +kernel, ⟨by decide +kernel, by decide +kernel⟩, Nat.le_of_ble_eq_true rfl⟩
theorem np_X5_parameters : (parseMethodDescriptor yX5_parameters.desc).map (fun d => d.parameters.length) = some 0 := by decide +kernel
theorem im_X5_parameters : Cond.instanceMethod yX5_parameters ∈ pWW := pw3 (List.mem_of_getElem? (i := 99) rfl) rfl
theorem se_X5_parameters : Cond.selects RX5 yX5_parameters yX5_parameters ∈ pWW := pws (List.mem_map.mpr ⟨_, lw_pin 10 rfl, rfl⟩) rfl
theorem ml5_170 : Cond.methodLink RX5 170 yX5_parameter ∈ pWW := pw3 (List.mem_of_getElem? (i := 101) rfl) rfl
theorem dX5_parameters_0 : decode cX5_parameters 0 = .ok (.aload_n 0, 1) := by decide +kernel
theorem dX5_parameters_1 : decode cX5_parameters 1 = .ok (.getfield 12, 3) := by decide +kernel
theorem dX5_parameters_4 : decode cX5_parameters 4 = .ok (.getfield 71, 3) := by decide +kernel
theorem dX5_parameters_7 : decode cX5_parameters 7 = .ok (.bipush 41, 2) := by decide +kernel
theorem dX5_parameters_9 : decode cX5_parameters 9 = .ok (.if_icmp .ne 5, 3) := by decide +kernel
theorem dX5_parameters_14 : decode cX5_parameters 14 = .ok (.iconst 0, 1) := by decide +kernel
theorem dX5_parameters_15 : decode cX5_parameters 15 = .ok (.istore_n 1, 1) := by decide +kernel
theorem dX5_parameters_16 : decode cX5_parameters 16 = .ok (.iload_n 1, 1) := by decide +kernel
theorem dX5_parameters_17 : decode cX5_parameters 17 = .ok (.sipush 1200, 3) := by decide +kernel
theorem dX5_parameters_20 : decode cX5_parameters 20 = .ok (.if_icmp .ge 62, 3) := by decide +kernel
theorem dX5_parameters_23 : decode cX5_parameters 23 = .ok (.aload_n 0, 1) := by decide +kernel
theorem dX5_parameters_24 : decode cX5_parameters 24 = .ok (.getfield 12, 3) := by decide +kernel
theorem dX5_parameters_27 : decode cX5_parameters 27 = .ok (.getfield 71, 3) := by decide +kernel
theorem dX5_parameters_30 : decode cX5_parameters 30 = .ok (.sipush 256, 3) := by decide +kernel
theorem dX5_parameters_33 : decode cX5_parameters 33 = .ok (.if_icmp .eq 8, 3) := by decide +kernel
theorem dX5_parameters_41 : decode cX5_parameters 41 = .ok (.aload_n 0, 1) := by decide +kernel
theorem dX5_parameters_42 : decode cX5_parameters 42 = .ok (.iload_n 1, 1) := by decide +kernel
theorem dX5_parameters_43 : decode cX5_parameters 43 = .ok (.iconst 1, 1) := by decide +kernel
theorem dX5_parameters_44 : decode cX5_parameters 44 = .ok (.iadd, 1) := by decide +kernel
theorem dX5_parameters_45 : decode cX5_parameters 45 = .ok (.invokevirtual 170, 3) := by decide +kernel
theorem dX5_parameters_48 : decode cX5_parameters 48 = .ok (.aload_n 0, 1) := by decide +kernel
theorem dX5_parameters_49 : decode cX5_parameters 49 = .ok (.getfield 12, 3) := by decide +kernel
theorem dX5_parameters_52 : decode cX5_parameters 52 = .ok (.invokevirtual 93, 3) := by decide +kernel
theorem dX5_parameters_55 : decode cX5_parameters 55 = .ok (.aload_n 0, 1) := by decide +kernel
theorem dX5_parameters_56 : decode cX5_parameters 56 = .ok (.getfield 12, 3) := by decide +kernel
theorem dX5_parameters_59 : decode cX5_parameters 59 = .ok (.getfield 71, 3) := by decide +kernel
theorem dX5_parameters_62 : decode cX5_parameters 62 = .ok (.bipush 44, 2) := by decide +kernel
theorem dX5_parameters_64 : decode cX5_parameters 64 = .ok (.if_icmp .eq 5, 3) := by decide +kernel
theorem dX5_parameters_69 : decode cX5_parameters 69 = .ok (.aload_n 0, 1) := by decide +kernel
theorem dX5_parameters_70 : decode cX5_parameters 70 = .ok (.getfield 12, 3) := by decide +kernel
theorem dX5_parameters_73 : decode cX5_parameters 73 = .ok (.invokevirtual 93, 3) := by decide +kernel
theorem dX5_parameters_76 : decode cX5_parameters 76 = .ok (.iinc 1 1, 3) := by decide +kernel
theorem dX5_parameters_79 : decode cX5_parameters 79 = .ok (.goto (-63), 3) := by decide +kernel
set_option maxRecDepth 20000 in
theorem l_X5_parameters_16 (d : Nat) {T : CT} {σ0 : MS} {a : Nat} {kp : Int} {post : Option Value → CT → MS → Prop} (h_a : OB T a 5) (hw0 : WT T σ0) (hkp : kp ≤ 150) (hx_36 : ∀ (i1 : Int) (σ : MS) , (WT T σ) → (FrC T [7, 8, 43, 44, 84, 85, 86, 87, 517, 521] σ0 σ) → (0 ≤ i1 ∧ i1 ≤ 2147483647) → (RP σ a kp) → Tn (d + 4) m_X5_parameters 36 T σ [(0, .ref a), (1, .int (iI i1))] [] post) (hx_67 : ∀ (i1 : Int) (σ : MS) , (WT T σ) → (FrC T [7, 8, 43, 44, 84, 85, 86, 87, 517, 521] σ0 σ) → (0 ≤ i1 ∧ i1 ≤ 2147483647) → (RP σ a kp) → Tn (d + 4) m_X5_parameters 67 T σ [(0, .ref a), (1, .int (iI i1))] [] post) (hx_82 : ∀ (i1 : Int) (σ : MS) , (WT T σ) → (FrC T [7, 8, 43, 44, 84, 85, 86, 87, 517, 521] σ0 σ) → (0 ≤ i1 ∧ i1 ≤ 2147483647) → (RP σ a kp) → Tn (d + 4) m_X5_parameters 82 T σ [(0, .ref a), (1, .int (iI i1))] [] post) : ∀ (n : Nat) (i1 : Int) (σ : MS) , (WT T σ) → (FrC T [7, 8, 43, 44, 84, 85, 86, 87, 517, 521] σ0 σ) → (0 ≤ i1 ∧ i1 ≤ 2147483647) → (RP σ a kp) → (2147483700 - i1).toNat = n → Tn (d + 4) m_X5_parameters 16 T σ [(0, .ref a), (1, .int (iI i1))] [] post := by
  intro n
  induction n using Nat.strongRecOn with
  | _ n ih =>
    intro i1 σ hw hF r_i1 hrp hm
    refine tn_iload_n dX5_parameters_16 rfl 1 rfl ?_
    refine tn_sipush dX5_parameters_17 (by decide) ?_
    refine tn_icmp_ge (tgt := 82) dX5_parameters_20 (by decide) ⟨by omega, by omega⟩ ⟨by decide, by decide⟩ (fun h1 => ?_) (fun h1 => ?_)
    · exact tn_sub [0, 1] rfl (hx_82 (i1) σ hw (FrC.rfl.trans (FrC.sub hF (by decide))) (by omega) (RP.up hrp (by omega)))
    · refine tn_aload_n dX5_parameters_23 rfl 0 rfl ?_
      obtain ⟨x2, hx3, hk4⟩ : ∃ x : Nat, σ0.2.1 33 a = (x : Int) ∧ (T x).1 = 39 := wf_33 hw0 h_a
      have hk4o : OB T x2 9 := ⟨by omega, by rw [hk4]; rfl, by omega⟩
      refine tn_getR (ci := 5) (i := 0) (n := 33) (x := x2) dX5_parameters_24 rfl lay_5 (by decide) fl5_12 h_a rfl rfl (rc_F hF (Or.inl (by decide)) (by decide) (hx3)) ?_
      refine tn_getI (ci := 9) (i := 4) (n := 85) (t := σ.2.1 85 x2) dX5_parameters_27 rfl lay_9 (by decide) fl5_71 hk4o rfl rfl (rfl) ?_
      have g6 : ((-2147483648 : Int) ≤ σ.2.1 85 x2 ∧ σ.2.1 85 x2 ≤ 2147483647) := wf_85 hw hk4o
      refine tn_sipush dX5_parameters_30 (by decide) ?_
      refine tn_icmp_eq (tgt := 41) dX5_parameters_33 (by decide) ⟨by omega, by omega⟩ ⟨by decide, by decide⟩ (fun h7 => ?_) (fun h7 => ?_)
      · refine tn_aload_n dX5_parameters_41 rfl 0 rfl ?_
        refine tn_iload_n dX5_parameters_42 rfl 1 rfl ?_
        refine tn_iconst dX5_parameters_43 ?_
        refine tn_iadd dX5_parameters_44 ?_
        refine tn_callV (M := m_X5_parameters) (pc := 45) (ix := 170) (ci := 5) (M' := m_X5_parameter) (As := [.int (iI (i1 + 1))]) (rest := []) dX5_parameters_45 ok_X5_parameter im_X5_parameter se_X5_parameter ml5_170 np_X5_parameter rfl rfl h_a rfl (Nat.le_of_ble_eq_true rfl) (Nat.le_of_ble_eq_true rfl) rfl (k_X5_parameter (d) (T := T) (σ := σ) (a := a) (c := i1 + 1) h_a (by omega) hw (by omega)) (fun r8 T10 σ9 gt11 hp => ?_)
        obtain ⟨rfl, rfl, w13, F14⟩ := hp
        clear gt11
        have rp15 : RP σ9 a (kp) := RP.frc hrp F14 (by decide) (by decide) (by decide) (by decide) (by decide)
        show Tn _ _ 48 T σ9 [(0, .ref a), (1, .int (iI i1))] [] _
        refine tn_aload_n dX5_parameters_48 rfl 0 rfl ?_
        refine tn_getR (ci := 5) (i := 0) (n := 33) (x := x2) dX5_parameters_49 rfl lay_5 (by decide) fl5_12 h_a rfl rfl (rc_F F14 (Or.inl (by decide)) (by decide) (rc_F hF (Or.inl (by decide)) (by decide) (hx3))) ?_
        have q20 : σ9.2.1 84 x2 = σ.2.1 84 x2 := rc_F F14 (Or.inl (by decide)) (by decide) (rfl)
        refine tn_callV (M := m_X5_parameters) (pc := 52) (ix := 93) (ci := 9) (M' := m_X9_next) (As := []) (rest := []) dX5_parameters_52 ok_X9_next im_X9_next se_X9_next ml5_93 np_X9_next rfl rfl hk4o rfl (Nat.le_of_ble_eq_true rfl) (Nat.le_of_ble_eq_true rfl) rfl (k_X9_next (d + 2) (T := T) (σ := σ9) (a := x2) hk4o w13 (RP.tk rp15 w13 h_a (rc_F F14 (Or.inl (by decide)) (by decide) (rc_F hF (Or.inl (by decide)) (by decide) (hx3))))) (fun r16 T18 σ17 gt19 hp => ?_)
        obtain ⟨rfl, rfl, w25, F26, f21, f22, f23⟩ := hp
        clear gt19
        have rp27 : RP σ17 a (kp - 4) := RP.next4 rp15 (rc_F F14 (Or.inl (by decide)) (by decide) (rc_F hF (Or.inl (by decide)) (by decide) (hx3))) F26 (by decide) (by decide) (by decide) f21 f23 (by rw [show σ9.2.1 85 x2 = σ.2.1 85 x2 from rc_F F14 (Or.inl (by decide)) (by decide) (rfl)]; omega)
        show Tn _ _ 55 T σ17 [(0, .ref a), (1, .int (iI i1))] [] _
        refine tn_aload_n dX5_parameters_55 rfl 0 rfl ?_
        refine tn_getR (ci := 5) (i := 0) (n := 33) (x := x2) dX5_parameters_56 rfl lay_5 (by decide) fl5_12 h_a rfl rfl (rc_F F26 (Or.inl (by decide)) (by decide) (rc_F F14 (Or.inl (by decide)) (by decide) (rc_F hF (Or.inl (by decide)) (by decide) (hx3)))) ?_
        refine tn_getI (ci := 9) (i := 4) (n := 85) (t := σ17.2.1 85 x2) dX5_parameters_59 rfl lay_9 (by decide) fl5_71 hk4o rfl rfl (rfl) ?_
        have g28 : ((-2147483648 : Int) ≤ σ17.2.1 85 x2 ∧ σ17.2.1 85 x2 ≤ 2147483647) := wf_85 w25 hk4o
        refine tn_bipush dX5_parameters_62 (by decide) ?_
        refine tn_icmp_eq (tgt := 69) dX5_parameters_64 (by decide) ⟨by omega, by omega⟩ ⟨by decide, by decide⟩ (fun h29 => ?_) (fun h29 => ?_)
        · refine tn_aload_n dX5_parameters_69 rfl 0 rfl ?_
          refine tn_getR (ci := 5) (i := 0) (n := 33) (x := x2) dX5_parameters_70 rfl lay_5 (by decide) fl5_12 h_a rfl rfl (rc_F F26 (Or.inl (by decide)) (by decide) (rc_F F14 (Or.inl (by decide)) (by decide) (rc_F hF (Or.inl (by decide)) (by decide) (hx3)))) ?_
          refine tn_callV (M := m_X5_parameters) (pc := 73) (ix := 93) (ci := 9) (M' := m_X9_next) (As := []) (rest := []) dX5_parameters_73 ok_X9_next im_X9_next se_X9_next ml5_93 np_X9_next rfl rfl hk4o rfl (Nat.le_of_ble_eq_true rfl) (Nat.le_of_ble_eq_true rfl) rfl (k_X9_next (d + 2) (T := T) (σ := σ17) (a := x2) hk4o w25 (RP.tk rp27 w25 h_a (rc_F F26 (Or.inl (by decide)) (by decide) (rc_F F14 (Or.inl (by decide)) (by decide) (rc_F hF (Or.inl (by decide)) (by decide) (hx3)))))) (fun r30 T32 σ31 gt33 hp => ?_)
          obtain ⟨rfl, rfl, w38, F39, f34, f35, f36⟩ := hp
          clear gt33
          have rp40 : RP σ31 a (kp - 4 - 4) := RP.next4 rp27 (rc_F F26 (Or.inl (by decide)) (by decide) (rc_F F14 (Or.inl (by decide)) (by decide) (rc_F hF (Or.inl (by decide)) (by decide) (hx3)))) F39 (by decide) (by decide) (by decide) f34 f36 (by rw [show σ17.2.1 85 x2 = σ17.2.1 85 x2 from rfl]; omega)
          have rp41 : RP σ31 a (kp - 8) := RP.up rp40 (by omega)
          show Tn _ _ 76 T σ31 [(0, .ref a), (1, .int (iI i1))] [] _
          refine tn_iinc (q0 := 1) (L' := [(1, .int (iI (i1 + 1))), (0, .ref a)]) dX5_parameters_76 rfl (by decide) rfl ?_
          refine tn_goto (tgt := 16) dX5_parameters_79 (by decide) ?_
          exact tn_sub [1, 0] rfl (ih _ (by omega) (i1 + 1) σ31 w38 ((((FrC.rfl.trans (FrC.sub hF (by decide))).trans (FrC.sub F14 (by decide))).trans (FrC.sub F26 (by decide))).trans (FrC.sub F39 (by decide))) (by omega) (RP.up rp41 (by omega)) rfl)
        · exact tn_sub [0, 1] rfl (hx_67 (i1) σ17 w25 (((FrC.rfl.trans (FrC.sub hF (by decide))).trans (FrC.sub F14 (by decide))).trans (FrC.sub F26 (by decide))) (by omega) (RP.up rp27 (by omega)))
      · exact tn_sub [0, 1] rfl (hx_36 (i1) σ hw (FrC.rfl.trans (FrC.sub hF (by decide))) (by omega) (RP.up hrp (by omega)))
theorem dX5_parameters_36 : decode cX5_parameters 36 = .ok (.aload_n 0, 1) := by decide +kernel
theorem dX5_parameters_37 : decode cX5_parameters 37 = .ok (.invokevirtual 90, 3) := by decide +kernel
theorem dX5_parameters_40 : decode cX5_parameters 40 = .ok (.ireturn, 1) := by decide +kernel
theorem dX5_parameters_67 : decode cX5_parameters 67 = .ok (.iconst 1, 1) := by decide +kernel
theorem dX5_parameters_68 : decode cX5_parameters 68 = .ok (.ireturn, 1) := by decide +kernel
theorem dX5_parameters_82 : decode cX5_parameters 82 = .ok (.aload_n 0, 1) := by decide +kernel
theorem dX5_parameters_83 : decode cX5_parameters 83 = .ok (.invokevirtual 90, 3) := by decide +kernel
theorem dX5_parameters_86 : decode cX5_parameters 86 = .ok (.ireturn, 1) := by decide +kernel
theorem dX5_parameters_12 : decode cX5_parameters 12 = .ok (.iconst 1, 1) := by decide +kernel
theorem dX5_parameters_13 : decode cX5_parameters 13 = .ok (.ireturn, 1) := by decide +kernel
set_option maxRecDepth 20000 in
theorem k_X5_parameters (d : Nat) {T : CT} {σ : MS} {a : Nat} {kp : Int} (ha : OB T a 5) (hw : WT T σ) (hkp : kp ≤ 150) (hrp : RP σ a kp) : Tn (d + 4) m_X5_parameters 0 T σ [(0, .ref a)] [] (fun ro T2 σ2 => ∃ v : Int, ro = some (.int (iI v)) ∧ T = T2 ∧ WT T2 σ2 ∧ FrC T [7, 8, 43, 44, 84, 85, 86, 87, 517, 521] σ σ2 ∧ (v = 0 ∨ v = 1) ∧ (RP σ2 a (kp))) := by
  refine tn_aload_n dX5_parameters_0 rfl 0 rfl ?_
  obtain ⟨x1, hx2, hk3⟩ : ∃ x : Nat, σ.2.1 33 a = (x : Int) ∧ (T x).1 = 39 := wf_33 hw ha
  have hk3o : OB T x1 9 := ⟨by omega, by rw [hk3]; rfl, by omega⟩
  refine tn_getR (ci := 5) (i := 0) (n := 33) (x := x1) dX5_parameters_1 rfl lay_5 (by decide) fl5_12 ha rfl rfl (hx2) ?_
  refine tn_getI (ci := 9) (i := 4) (n := 85) (t := σ.2.1 85 x1) dX5_parameters_4 rfl lay_9 (by decide) fl5_71 hk3o rfl rfl (rfl) ?_
  have g5 : ((-2147483648 : Int) ≤ σ.2.1 85 x1 ∧ σ.2.1 85 x1 ≤ 2147483647) := wf_85 hw hk3o
  refine tn_bipush dX5_parameters_7 (by decide) ?_
  refine tn_icmp_ne (tgt := 14) dX5_parameters_9 (by decide) ⟨by omega, by omega⟩ ⟨by decide, by decide⟩ (fun h6 => ?_) (fun h6 => ?_)
  · refine tn_iconst dX5_parameters_14 ?_
    refine tn_istore_n (L' := [(1, .int (iI 0)), (0, .ref a)]) dX5_parameters_15 rfl (by decide) rfl ?_
    refine tn_sub [1, 0] rfl (l_X5_parameters_16 (d) (T := T) (σ0 := σ) (a := a) (kp := kp) ha hw (by omega) (fun i17 σ8 w11 F12 r13 f14 => ?_) (fun i115 σ16 w19 F20 r21 f22 => ?_) (fun i123 σ24 w27 F28 r29 f30 => ?_) _ (0) σ hw FrC.rfl (by omega) hrp rfl)
    · show Tn _ _ 36 T σ8 [(0, .ref a), (1, .int (iI i17))] [] _
      refine tn_aload_n dX5_parameters_36 rfl 0 rfl ?_
      refine tn_callV (M := m_X5_parameters) (pc := 37) (ix := 90) (ci := 5) (M' := m_X5_refuse) (As := []) (rest := []) dX5_parameters_37 ok_X5_refuse im_X5_refuse se_X5_refuse ml5_90 np_X5_refuse rfl rfl ha rfl (Nat.le_of_ble_eq_true rfl) (Nat.le_of_ble_eq_true rfl) rfl (k_X5_refuse (d + 2) (T := T) (σ := σ8) (a := a) ha w11 ) (fun r31 T33 σ32 gt34 hp => ?_)
      obtain ⟨v37, rfl, rfl, w38, F39, f35, f36⟩ := hp
      clear gt34
      have rp40 : RP σ32 a (kp) := RP.frc f14 F39 (by decide) (by decide) (by decide) (by decide) (by decide)
      show Tn _ _ 40 T σ32 [(0, .ref a), (1, .int (iI i17))] [.int (iI v37)] _
      exact tn_zret (v := v37) rfl (by omega) dX5_parameters_40 ⟨_, rfl, rfl, w38, ((FrC.rfl.trans (FrC.sub F12 (by decide))).trans (FrC.sub F39 (by decide))), by omega, (RP.up rp40 (by omega))⟩
    · show Tn _ _ 67 T σ16 [(0, .ref a), (1, .int (iI i115))] [] _
      refine tn_iconst dX5_parameters_67 ?_
      exact tn_zret (v := 1) rfl (by decide) dX5_parameters_68 ⟨_, rfl, rfl, w19, (FrC.rfl.trans (FrC.sub F20 (by decide))), by omega, (RP.up f22 (by omega))⟩
    · show Tn _ _ 82 T σ24 [(0, .ref a), (1, .int (iI i123))] [] _
      refine tn_aload_n dX5_parameters_82 rfl 0 rfl ?_
      refine tn_callV (M := m_X5_parameters) (pc := 83) (ix := 90) (ci := 5) (M' := m_X5_refuse) (As := []) (rest := []) dX5_parameters_83 ok_X5_refuse im_X5_refuse se_X5_refuse ml5_90 np_X5_refuse rfl rfl ha rfl (Nat.le_of_ble_eq_true rfl) (Nat.le_of_ble_eq_true rfl) rfl (k_X5_refuse (d + 2) (T := T) (σ := σ24) (a := a) ha w27 ) (fun r41 T43 σ42 gt44 hp => ?_)
      obtain ⟨v47, rfl, rfl, w48, F49, f45, f46⟩ := hp
      clear gt44
      have rp50 : RP σ42 a (kp) := RP.frc f30 F49 (by decide) (by decide) (by decide) (by decide) (by decide)
      show Tn _ _ 86 T σ42 [(0, .ref a), (1, .int (iI i123))] [.int (iI v47)] _
      exact tn_zret (v := v47) rfl (by omega) dX5_parameters_86 ⟨_, rfl, rfl, w48, ((FrC.rfl.trans (FrC.sub F28 (by decide))).trans (FrC.sub F49 (by decide))), by omega, (RP.up rp50 (by omega))⟩
  · refine tn_iconst dX5_parameters_12 ?_
    exact tn_zret (v := 1) rfl (by decide) dX5_parameters_13 ⟨_, rfl, rfl, hw, FrC.rfl, by omega, (RP.up hrp (by omega))⟩
