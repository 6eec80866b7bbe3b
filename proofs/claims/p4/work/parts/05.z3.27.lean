theorem ml5_183 : Cond.methodLink RX5 183 yX5_statement ∈ pWW := pw3 (List.mem_of_getElem? (i := 117) rfl) rfl
theorem dX5_block_6 : decode cX5_block 6 = .ok (.aload_n 0, 1) := by decide +kernel
theorem dX5_block_7 : decode cX5_block 7 = .ok (.bipush 123, 2) := by decide +kernel
theorem dX5_block_9 : decode cX5_block 9 = .ok (.invokevirtual 102, 3) := by decide +kernel
theorem dX5_block_12 : decode cX5_block 12 = .ok (.ifCond .ne 8, 3) := by decide +kernel
theorem dX5_block_20 : decode cX5_block 20 = .ok (.iconst 0, 1) := by decide +kernel
theorem dX5_block_21 : decode cX5_block 21 = .ok (.istore_n 2, 1) := by decide +kernel
theorem dX5_block_22 : decode cX5_block 22 = .ok (.iload_n 2, 1) := by decide +kernel
theorem dX5_block_23 : decode cX5_block 23 = .ok (.sipush 1200, 3) := by decide +kernel
theorem dX5_block_26 : decode cX5_block 26 = .ok (.if_icmp .ge 31, 3) := by decide +kernel
theorem dX5_block_29 : decode cX5_block 29 = .ok (.aload_n 0, 1) := by decide +kernel
theorem dX5_block_30 : decode cX5_block 30 = .ok (.getfield 12, 3) := by decide +kernel
theorem dX5_block_33 : decode cX5_block 33 = .ok (.getfield 71, 3) := by decide +kernel
theorem dX5_block_36 : decode cX5_block 36 = .ok (.bipush 125, 2) := by decide +kernel
theorem dX5_block_38 : decode cX5_block 38 = .ok (.if_icmp .eq 19, 3) := by decide +kernel
theorem dX5_block_41 : decode cX5_block 41 = .ok (.aload_n 0, 1) := by decide +kernel
theorem dX5_block_42 : decode cX5_block 42 = .ok (.iload_n 1, 1) := by decide +kernel
theorem dX5_block_43 : decode cX5_block 43 = .ok (.invokevirtual 183, 3) := by decide +kernel
theorem dX5_block_46 : decode cX5_block 46 = .ok (.ifCond .ne 5, 3) := by decide +kernel
theorem dX5_block_51 : decode cX5_block 51 = .ok (.iinc 2 1, 3) := by decide +kernel
theorem dX5_block_54 : decode cX5_block 54 = .ok (.goto (-32), 3) := by decide +kernel
set_option maxRecDepth 20000 in
theorem l_X5_block_1_22 (d : Nat) {T0 : CT} {σ0 : MS} {a : Nat} {c1 : Int} {kp : Int} {lv : Nat} {post : Option Value → CT → MS → Prop} (r_c1 : 0 ≤ c1 ∧ c1 ≤ 6) (hw0 : WT T0 σ0) (hlv : 6 ≤ c1 + (lv : Int)) (hkp : kp ≤ 140) (hex : ∀ (d : Nat) {T : CT} {σ : MS} {a : Nat} {dp : Int} {kp : Int} (ha : OB T a 5) (h_dp : -2147483648 ≤ dp ∧ dp ≤ 2147483647) (hw : WT T σ) (hdp : 0 ≤ dp ∧ dp ≤ 7) (hlv : 7 ≤ dp + (lv : Int)) (hkp : kp ≤ 140) (hrp : RP σ a kp), Tn (d + 3 * lv + 60) m_X5_block 0 T σ [(0, .ref a), (1, .int (iI dp))] [] (fun ro T2 σ2 => ∃ v : Int, ro = some (.int (iI v)) ∧ WT T2 σ2 ∧ FrC T [5, 6, 7, 9, 42, 43, 44, 45, 46, 47, 50, 51, 84, 85, 86, 87, 518, 519, 520, 521] σ σ2 ∧ (v = 0 ∨ v = 1) ∧ (RP σ2 a (kp + 2 - 10 * v)))) (hx_49 : ∀ (T : CT) (i2 : Int) (σ : MS) , (GT T0 T) → (WT T σ) → (FrC T0 [5, 6, 7, 9, 42, 43, 44, 45, 46, 47, 50, 51, 84, 85, 86, 87, 518, 519, 520, 521] σ0 σ) → (OB T a 5) → (0 ≤ i2 ∧ i2 ≤ 2147483647) → (RP σ a (kp + 2)) → Tn (d + 3 * lv + 63) m_X5_block 49 T σ [(0, .ref a), (1, .int (iI c1)), (2, .int (iI i2))] [] post) (hx_57 : ∀ (T : CT) (i2 : Int) (σ : MS) , (GT T0 T) → (WT T σ) → (FrC T0 [5, 6, 7, 9, 42, 43, 44, 45, 46, 47, 50, 51, 84, 85, 86, 87, 518, 519, 520, 521] σ0 σ) → (OB T a 5) → (0 ≤ i2 ∧ i2 ≤ 2147483647) → (RP σ a kp) → Tn (d + 3 * lv + 63) m_X5_block 57 T σ [(0, .ref a), (1, .int (iI c1)), (2, .int (iI i2))] [] post) : ∀ (n : Nat) (T : CT) (i2 : Int) (σ : MS) , (GT T0 T) → (WT T σ) → (FrC T0 [5, 6, 7, 9, 42, 43, 44, 45, 46, 47, 50, 51, 84, 85, 86, 87, 518, 519, 520, 521] σ0 σ) → (OB T a 5) → (0 ≤ i2 ∧ i2 ≤ 2147483647) → (RP σ a kp) → (2147483700 - i2).toNat = n → Tn (d + 3 * lv + 63) m_X5_block 22 T σ [(0, .ref a), (1, .int (iI c1)), (2, .int (iI i2))] [] post := by
  intro n
  induction n using Nat.strongRecOn with
  | _ n ih =>
    intro T i2 σ hG hw hF h_a r_i2 hrp hm
    refine tn_iload_n dX5_block_22 rfl 2 rfl ?_
    refine tn_sipush dX5_block_23 (by decide) ?_
    refine tn_icmp_ge (tgt := 57) dX5_block_26 (by decide) ⟨by omega, by omega⟩ ⟨by decide, by decide⟩ (fun h1 => ?_) (fun h1 => ?_)
    · exact tn_sub [0, 1, 2] rfl (hx_57 T (i2) σ hG hw (FrC.rfl.trans (FrC.sub hF (by decide))) h_a (by omega) (RP.up hrp (by omega)))
    · refine tn_aload_n dX5_block_29 rfl 0 rfl ?_
      obtain ⟨x2, hx3, hk4⟩ : ∃ x : Nat, σ.2.1 33 a = (x : Int) ∧ (T x).1 = 39 := wf_33 hw h_a
      have hk4o : OB T x2 9 := ⟨by omega, by rw [hk4]; rfl, by omega⟩
      refine tn_getR (ci := 5) (i := 0) (n := 33) (x := x2) dX5_block_30 rfl lay_5 (by decide) fl5_12 h_a rfl rfl (hx3) ?_
      refine tn_getI (ci := 9) (i := 4) (n := 85) (t := σ.2.1 85 x2) dX5_block_33 rfl lay_9 (by decide) fl5_71 hk4o rfl rfl (rfl) ?_
      have g6 : ((-2147483648 : Int) ≤ σ.2.1 85 x2 ∧ σ.2.1 85 x2 ≤ 2147483647) := wf_85 hw hk4o
      refine tn_bipush dX5_block_36 (by decide) ?_
      refine tn_icmp_eq (tgt := 57) dX5_block_38 (by decide) ⟨by omega, by omega⟩ ⟨by decide, by decide⟩ (fun h7 => ?_) (fun h7 => ?_)
      · exact tn_sub [0, 1, 2] rfl (hx_57 T (i2) σ hG hw (FrC.rfl.trans (FrC.sub hF (by decide))) h_a (by omega) (RP.up hrp (by omega)))
      · refine tn_aload_n dX5_block_41 rfl 0 rfl ?_
        refine tn_iload_n dX5_block_42 rfl 1 rfl ?_
        refine tn_callV (M := m_X5_block) (pc := 43) (ix := 183) (ci := 5) (M' := m_X5_statement) (As := [.int (iI c1)]) (rest := []) dX5_block_43 ok_X5_statement im_X5_statement se_X5_statement ml5_183 np_X5_statement rfl rfl h_a rfl (Nat.le_of_ble_eq_true rfl) (Nat.le_of_ble_eq_true rfl) rfl (k_X5_statement (d) (T := T) (σ := σ) (a := a) (dp := c1) (kp := kp) (lv := lv) h_a (by omega) hw hex (by omega) (by omega) (by omega) hrp) (fun r8 T10 σ9 gt11 hp => ?_)
        obtain ⟨v14, rfl, w15, F16, f12, f13⟩ := hp
        replace h_a : OB T10 a 5 := gt11.ob h_a
        have rp18 : RP σ9 a (kp - 8 * v14 + 2) := RP.up f13 (by omega)
        show Tn _ _ 46 T10 σ9 [(0, .ref a), (1, .int (iI c1)), (2, .int (iI i2))] [.int (iI v14)] _
        refine tn_if_ne (tgt := 51) dX5_block_46 (by decide) ⟨by omega, by omega⟩ (fun h19 => ?_) (fun h19 => ?_)
        · refine tn_iinc (q0 := 2) (L' := [(2, .int (iI (i2 + 1))), (0, .ref a), (1, .int (iI c1))]) dX5_block_51 rfl (by decide) rfl ?_
          refine tn_goto (tgt := 22) dX5_block_54 (by decide) ?_
          exact tn_sub [1, 2, 0] rfl (ih _ (by omega) T10 (i2 + 1) σ9 (GT.trans hG gt11) w15 ((FrC.rfl.trans (FrC.sub hF (by decide))).trans (FrC.sub (FrC.old F16 hG) (by decide))) h_a (by omega) (RP.up rp18 (by omega)) rfl)
        · exact tn_sub [0, 1, 2] rfl (hx_49 T10 (i2) σ9 (GT.trans hG gt11) w15 ((FrC.rfl.trans (FrC.sub hF (by decide))).trans (FrC.sub (FrC.old F16 hG) (by decide))) h_a (by omega) (RP.up rp18 (by omega)))
theorem dX5_block_49 : decode cX5_block 49 = .ok (.iconst 0, 1) := by decide +kernel
theorem dX5_block_50 : decode cX5_block 50 = .ok (.ireturn, 1) := by decide +kernel
theorem dX5_block_57 : decode cX5_block 57 = .ok (.aload_n 0, 1) := by decide +kernel
theorem dX5_block_58 : decode cX5_block 58 = .ok (.bipush 125, 2) := by decide +kernel
theorem dX5_block_60 : decode cX5_block 60 = .ok (.invokevirtual 102, 3) := by decide +kernel
theorem dX5_block_63 : decode cX5_block 63 = .ok (.ireturn, 1) := by decide +kernel
set_option maxRecDepth 20000 in
theorem k_X5_block_1 (d : Nat) {T : CT} {σ : MS} {a : Nat} {dp : Int} {kp : Int} {lv : Nat} (ha : OB T a 5) (h_dp : -2147483648 ≤ dp ∧ dp ≤ 2147483647) (hw : WT T σ) (hex : ∀ (d : Nat) {T : CT} {σ : MS} {a : Nat} {dp : Int} {kp : Int} (ha : OB T a 5) (h_dp : -2147483648 ≤ dp ∧ dp ≤ 2147483647) (hw : WT T σ) (hdp : 0 ≤ dp ∧ dp ≤ 7) (hlv : 7 ≤ dp + (lv : Int)) (hkp : kp ≤ 140) (hrp : RP σ a kp), Tn (d + 3 * lv + 60) m_X5_block 0 T σ [(0, .ref a), (1, .int (iI dp))] [] (fun ro T2 σ2 => ∃ v : Int, ro = some (.int (iI v)) ∧ WT T2 σ2 ∧ FrC T [5, 6, 7, 9, 42, 43, 44, 45, 46, 47, 50, 51, 84, 85, 86, 87, 518, 519, 520, 521] σ σ2 ∧ (v = 0 ∨ v = 1) ∧ (RP σ2 a (kp + 2 - 10 * v)))) (hdp : 0 ≤ dp ∧ dp ≤ 7) (hlv : 7 ≤ dp + ((lv : Int) + 1)) (hkp : kp ≤ 140) (hrp : RP σ a kp) : Tn (d + 3 * lv + 63) m_X5_block 0 T σ [(0, .ref a), (1, .int (iI dp))] [] (fun ro T2 σ2 => ∃ v : Int, ro = some (.int (iI v)) ∧ WT T2 σ2 ∧ FrC T [5, 6, 7, 9, 42, 43, 44, 45, 46, 47, 50, 51, 84, 85, 86, 87, 518, 519, 520, 521] σ σ2 ∧ (v = 0 ∨ v = 1) ∧ (RP σ2 a (kp + 2 - 10 * v))) := by
  refine tn_iload_n dX5_block_0 rfl 1 rfl ?_
  refine tn_bipush dX5_block_1 (by decide) ?_
  refine tn_icmp_gt (tgt := 15) dX5_block_3 (by decide) ⟨by omega, by omega⟩ ⟨by decide, by decide⟩ (fun h1 => ?_) (fun h1 => ?_)
  · refine tn_aload_n dX5_block_15 rfl 0 rfl ?_
    refine tn_callV (M := m_X5_block) (pc := 16) (ix := 90) (ci := 5) (M' := m_X5_refuse) (As := []) (rest := []) dX5_block_16 ok_X5_refuse im_X5_refuse se_X5_refuse ml5_90 np_X5_refuse rfl rfl ha rfl (Nat.le_of_ble_eq_true rfl) (Nat.le_of_ble_eq_true rfl) rfl (k_X5_refuse (d + 3 * lv + 61) (T := T) (σ := σ) (a := a) ha hw ) (fun r2 T4 σ3 gt5 hp => ?_)
    obtain ⟨v8, rfl, rfl, w9, F10, f6, f7⟩ := hp
    clear gt5
    have rp11 : RP σ3 a (kp) := RP.frc hrp F10 (by decide) (by decide) (by decide) (by decide) (by decide)
    show Tn _ _ 19 T σ3 [(0, .ref a), (1, .int (iI dp))] [.int (iI v8)] _
    exact tn_zret (v := v8) rfl (by omega) dX5_block_19 ⟨_, rfl, w9, (FrC.rfl.trans (FrC.sub F10 (by decide))), by omega, (RP.up rp11 (by omega))⟩
  · refine tn_aload_n dX5_block_6 rfl 0 rfl ?_
    refine tn_bipush dX5_block_7 (by decide) ?_
    refine tn_callV (M := m_X5_block) (pc := 9) (ix := 102) (ci := 5) (M' := m_X5_taken) (As := [.int (iI 123)]) (rest := []) dX5_block_9 ok_X5_taken im_X5_taken se_X5_taken ml5_102 np_X5_taken rfl rfl ha rfl (Nat.le_of_ble_eq_true rfl) (Nat.le_of_ble_eq_true rfl) rfl (k_X5_taken (d + 3 * lv + 60) (T := T) (σ := σ) (a := a) (s := 123) (kp := kp) ha (by decide) hw (by omega) (by omega) hrp) (fun r12 T14 σ13 gt15 hp => ?_)
    obtain ⟨v18, rfl, rfl, w19, F20, f16, f17⟩ := hp
    clear gt15
    show Tn _ _ 12 T σ13 [(0, .ref a), (1, .int (iI dp))] [.int (iI v18)] _
    refine tn_if_ne (tgt := 20) dX5_block_12 (by decide) ⟨by omega, by omega⟩ (fun h22 => ?_) (fun h22 => ?_)
    · refine tn_iconst dX5_block_20 ?_
      refine tn_istore_n (L' := [(2, .int (iI 0)), (0, .ref a), (1, .int (iI dp))]) dX5_block_21 rfl (by decide) rfl ?_
      refine tn_sub [1, 2, 0] rfl (l_X5_block_1_22 (d) (σ0 := σ13) (T0 := T) (a := a) (c1 := dp) (kp := kp - 4 * v18) (lv := lv) (by omega) w19 (by omega) (by omega) hex (fun T25 i223 σ24 gt26 w27 F28 q29 r30 f31 => ?_) (fun T34 i232 σ33 gt35 w36 F37 q38 r39 f40 => ?_) _ T (0) σ13 GT.rfl w19 FrC.rfl ha (by omega) f17 rfl)
      · show Tn _ _ 49 T25 σ24 [(0, .ref a), (1, .int (iI dp)), (2, .int (iI i223))] [] _
        refine tn_iconst dX5_block_49 ?_
        exact tn_zret (v := 0) rfl (by decide) dX5_block_50 ⟨_, rfl, w27, ((FrC.rfl.trans (FrC.sub F20 (by decide))).trans (FrC.sub F28 (by decide))), by omega, (RP.up f31 (by omega))⟩
      · show Tn _ _ 57 T34 σ33 [(0, .ref a), (1, .int (iI dp)), (2, .int (iI i232))] [] _
        refine tn_aload_n dX5_block_57 rfl 0 rfl ?_
        refine tn_bipush dX5_block_58 (by decide) ?_
        refine tn_callV (M := m_X5_block) (pc := 60) (ix := 102) (ci := 5) (M' := m_X5_taken) (As := [.int (iI 125)]) (rest := []) dX5_block_60 ok_X5_taken im_X5_taken se_X5_taken ml5_102 np_X5_taken rfl rfl q38 rfl (Nat.le_of_ble_eq_true rfl) (Nat.le_of_ble_eq_true rfl) rfl (k_X5_taken (d + 3 * lv + 60) (T := T34) (σ := σ33) (a := a) (s := 125) (kp := kp - 4 * v18) q38 (by decide) w36 (by omega) (by omega) f40) (fun r41 T43 σ42 gt44 hp => ?_)
        obtain ⟨v47, rfl, rfl, w48, F49, f45, f46⟩ := hp
        clear gt44
        show Tn _ _ 63 T34 σ42 [(0, .ref a), (1, .int (iI dp)), (2, .int (iI i232))] [.int (iI v47)] _
        exact tn_zret (v := v47) rfl (by omega) dX5_block_63 ⟨_, rfl, w48, (((FrC.rfl.trans (FrC.sub F20 (by decide))).trans (FrC.sub F37 (by decide))).trans (FrC.sub (FrC.old F49 gt35) (by decide))), by omega, (RP.up f46 (by omega))⟩
    · refine tn_aload_n dX5_block_15 rfl 0 rfl ?_
      refine tn_callV (M := m_X5_block) (pc := 16) (ix := 90) (ci := 5) (M' := m_X5_refuse) (As := []) (rest := []) dX5_block_16 ok_X5_refuse im_X5_refuse se_X5_refuse ml5_90 np_X5_refuse rfl rfl ha rfl (Nat.le_of_ble_eq_true rfl) (Nat.le_of_ble_eq_true rfl) rfl (k_X5_refuse (d + 3 * lv + 61) (T := T) (σ := σ13) (a := a) ha w19 ) (fun r51 T53 σ52 gt54 hp => ?_)
      obtain ⟨v57, rfl, rfl, w58, F59, f55, f56⟩ := hp
      clear gt54
      have rp60 : RP σ52 a (kp - 4 * v18) := RP.frc f17 F59 (by decide) (by decide) (by decide) (by decide) (by decide)
      show Tn _ _ 19 T σ52 [(0, .ref a), (1, .int (iI dp))] [.int (iI v57)] _
      exact tn_zret (v := v57) rfl (by omega) dX5_block_19 ⟨_, rfl, w58, ((FrC.rfl.trans (FrC.sub F20 (by decide))).trans (FrC.sub F59 (by decide))), by omega, (RP.up rp60 (by omega))⟩
