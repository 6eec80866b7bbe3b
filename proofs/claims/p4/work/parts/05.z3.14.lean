theorem cd_X5_term : Cond.code yX5_term cX5_term 5 (some .boolean) ∈ pWW := pw3 (List.mem_of_getElem? (i := 173) rfl) rfl
abbrev m_X5_term : MT := (yX5_term, cX5_term, 5, (some .boolean))
theorem ok_X5_term : pOk m_X5_term := ⟨⟨cd_X5_term, ini_5⟩, by decide +kernel, ⟨by decide +kernel, by decide +kernel⟩, Nat.le_of_ble_eq_true rfl⟩
theorem np_X5_term : (parseMethodDescriptor yX5_term.desc).map (fun d => d.parameters.length) = some 1 := by decide +kernel
theorem im_X5_term : Cond.instanceMethod yX5_term ∈ pWW := pw3 (List.mem_of_getElem? (i := 172) rfl) rfl
theorem se_X5_term : Cond.selects RX5 yX5_term yX5_term ∈ pWW := pws (List.mem_map.mpr ⟨_, lw_pin 20 rfl, rfl⟩) rfl
theorem ml5_250 : Cond.methodLink RX5 250 yX5_factor ∈ pWW := pw3 (List.mem_of_getElem? (i := 174) rfl) rfl
theorem dX5_term_0 : decode cX5_term 0 = .ok (.aload_n 0, 1) := by decide +kernel
theorem dX5_term_1 : decode cX5_term 1 = .ok (.iload_n 1, 1) := by decide +kernel
theorem dX5_term_2 : decode cX5_term 2 = .ok (.invokevirtual 250, 3) := by decide +kernel
theorem dX5_term_5 : decode cX5_term 5 = .ok (.ifCond .ne 5, 3) := by decide +kernel
theorem dX5_term_10 : decode cX5_term 10 = .ok (.iconst 0, 1) := by decide +kernel
theorem dX5_term_11 : decode cX5_term 11 = .ok (.istore_n 2, 1) := by decide +kernel
theorem dX5_term_12 : decode cX5_term 12 = .ok (.iload_n 2, 1) := by decide +kernel
theorem dX5_term_13 : decode cX5_term 13 = .ok (.sipush 1200, 3) := by decide +kernel
theorem dX5_term_16 : decode cX5_term 16 = .ok (.if_icmp .ge 57, 3) := by decide +kernel
theorem dX5_term_19 : decode cX5_term 19 = .ok (.aload_n 0, 1) := by decide +kernel
theorem dX5_term_20 : decode cX5_term 20 = .ok (.getfield 12, 3) := by decide +kernel
theorem dX5_term_23 : decode cX5_term 23 = .ok (.getfield 71, 3) := by decide +kernel
theorem dX5_term_26 : decode cX5_term 26 = .ok (.bipush 42, 2) := by decide +kernel
theorem dX5_term_28 : decode cX5_term 28 = .ok (.if_icmp .ne 45, 3) := by decide +kernel
theorem dX5_term_31 : decode cX5_term 31 = .ok (.aload_n 0, 1) := by decide +kernel
theorem dX5_term_32 : decode cX5_term 32 = .ok (.getfield 216, 3) := by decide +kernel
theorem dX5_term_35 : decode cX5_term 35 = .ok (.istore_n 3, 1) := by decide +kernel
theorem dX5_term_36 : decode cX5_term 36 = .ok (.aload_n 0, 1) := by decide +kernel
theorem dX5_term_37 : decode cX5_term 37 = .ok (.getfield 219, 3) := by decide +kernel
theorem dX5_term_40 : decode cX5_term 40 = .ok (.istore 4, 2) := by decide +kernel
theorem dX5_term_42 : decode cX5_term 42 = .ok (.aload_n 0, 1) := by decide +kernel
theorem dX5_term_43 : decode cX5_term 43 = .ok (.getfield 12, 3) := by decide +kernel
theorem dX5_term_46 : decode cX5_term 46 = .ok (.invokevirtual 93, 3) := by decide +kernel
theorem dX5_term_49 : decode cX5_term 49 = .ok (.aload_n 0, 1) := by decide +kernel
theorem dX5_term_50 : decode cX5_term 50 = .ok (.iload_n 1, 1) := by decide +kernel
theorem dX5_term_51 : decode cX5_term 51 = .ok (.invokevirtual 250, 3) := by decide +kernel
theorem dX5_term_54 : decode cX5_term 54 = .ok (.ifCond .ne 5, 3) := by decide +kernel
theorem dX5_term_59 : decode cX5_term 59 = .ok (.aload_n 0, 1) := by decide +kernel
theorem dX5_term_60 : decode cX5_term 60 = .ok (.iconst 3, 1) := by decide +kernel
theorem dX5_term_61 : decode cX5_term 61 = .ok (.iload_n 3, 1) := by decide +kernel
theorem dX5_term_62 : decode cX5_term 62 = .ok (.iload 4, 2) := by decide +kernel
theorem dX5_term_64 : decode cX5_term 64 = .ok (.invokevirtual 244, 3) := by decide +kernel
theorem dX5_term_67 : decode cX5_term 67 = .ok (.iinc 2 1, 3) := by decide +kernel
theorem dX5_term_70 : decode cX5_term 70 = .ok (.goto (-58), 3) := by decide +kernel
set_option maxRecDepth 20000 in
theorem l_X5_term_12 (d : Nat) {T0 : CT} {σ0 : MS} {a : Nat} {c1 : Int} {kp : Int} {lv : Nat} {post : Option Value → CT → MS → Prop} (r_c1 : 0 ≤ c1 ∧ c1 ≤ 8) (hw0 : WT T0 σ0) (hlv : 8 ≤ c1 + (lv : Int)) (hkp : kp ≤ 150) (hex : ∀ (d : Nat) {T : CT} {σ : MS} {a : Nat} {dp : Int} {kp : Int} (ha : OB T a 5) (h_dp : -2147483648 ≤ dp ∧ dp ≤ 2147483647) (hw : WT T σ) (hdp : 0 ≤ dp ∧ dp ≤ 9) (hlv : 9 ≤ dp + (lv : Int)) (hkp : kp ≤ 150) (hrp : RP σ a kp), Tn (d + 5 * lv + 10) m_X5_expression 0 T σ [(0, .ref a), (1, .int (iI dp))] [] (fun ro T2 σ2 => ∃ v : Int, ro = some (.int (iI v)) ∧ WT T2 σ2 ∧ FrC T [5, 6, 7, 43, 44, 47, 50, 51, 84, 85, 86, 87, 521] σ σ2 ∧ (v = 0 ∨ v = 1) ∧ (RP σ2 a (kp - 4 * v)))) (hx_57 : ∀ (T : CT) (i2 : Int) (σ : MS) , (GT T0 T) → (WT T σ) → (FrC T0 [5, 6, 7, 43, 44, 47, 50, 51, 84, 85, 86, 87, 521] σ0 σ) → (OB T a 5) → (0 ≤ i2 ∧ i2 ≤ 2147483647) → (RP σ a kp) → Tn (d + 5 * lv + 13) m_X5_term 57 T σ [(0, .ref a), (1, .int (iI c1)), (2, .int (iI i2))] [] post) (hx_73 : ∀ (T : CT) (i2 : Int) (σ : MS) , (GT T0 T) → (WT T σ) → (FrC T0 [5, 6, 7, 43, 44, 47, 50, 51, 84, 85, 86, 87, 521] σ0 σ) → (OB T a 5) → (0 ≤ i2 ∧ i2 ≤ 2147483647) → (RP σ a kp) → Tn (d + 5 * lv + 13) m_X5_term 73 T σ [(0, .ref a), (1, .int (iI c1)), (2, .int (iI i2))] [] post) : ∀ (n : Nat) (T : CT) (i2 : Int) (σ : MS) , (GT T0 T) → (WT T σ) → (FrC T0 [5, 6, 7, 43, 44, 47, 50, 51, 84, 85, 86, 87, 521] σ0 σ) → (OB T a 5) → (0 ≤ i2 ∧ i2 ≤ 2147483647) → (RP σ a kp) → (2147483700 - i2).toNat = n → Tn (d + 5 * lv + 13) m_X5_term 12 T σ [(0, .ref a), (1, .int (iI c1)), (2, .int (iI i2))] [] post := by
  intro n
  induction n using Nat.strongRecOn with
  | _ n ih =>
    intro T i2 σ hG hw hF h_a r_i2 hrp hm
    refine tn_iload_n dX5_term_12 rfl 2 rfl ?_
    refine tn_sipush dX5_term_13 (by decide) ?_
    refine tn_icmp_ge (tgt := 73) dX5_term_16 (by decide) ⟨by omega, by omega⟩ ⟨by decide, by decide⟩ (fun h1 => ?_) (fun h1 => ?_)
    · exact tn_sub [0, 1, 2] rfl (hx_73 T (i2) σ hG hw (FrC.rfl.trans (FrC.sub hF (by decide))) h_a (by omega) (RP.up hrp (by omega)))
    · refine tn_aload_n dX5_term_19 rfl 0 rfl ?_
      obtain ⟨x2, hx3, hk4⟩ : ∃ x : Nat, σ.2.1 33 a = (x : Int) ∧ (T x).1 = 39 := wf_33 hw h_a
      have hk4o : OB T x2 9 := ⟨by omega, by rw [hk4]; rfl, by omega⟩
      refine tn_getR (ci := 5) (i := 0) (n := 33) (x := x2) dX5_term_20 rfl lay_5 (by decide) fl5_12 h_a rfl rfl (hx3) ?_
      refine tn_getI (ci := 9) (i := 4) (n := 85) (t := σ.2.1 85 x2) dX5_term_23 rfl lay_9 (by decide) fl5_71 hk4o rfl rfl (rfl) ?_
      have g6 : ((-2147483648 : Int) ≤ σ.2.1 85 x2 ∧ σ.2.1 85 x2 ≤ 2147483647) := wf_85 hw hk4o
      refine tn_bipush dX5_term_26 (by decide) ?_
      refine tn_icmp_ne (tgt := 73) dX5_term_28 (by decide) ⟨by omega, by omega⟩ ⟨by decide, by decide⟩ (fun h7 => ?_) (fun h7 => ?_)
      · exact tn_sub [0, 1, 2] rfl (hx_73 T (i2) σ hG hw (FrC.rfl.trans (FrC.sub hF (by decide))) h_a (by omega) (RP.up hrp (by omega)))
      · refine tn_aload_n dX5_term_31 rfl 0 rfl ?_
        refine tn_getI (ci := 5) (i := 17) (n := 50) (t := σ.2.1 50 a) dX5_term_32 rfl lay_5 (by decide) fl5_216 h_a rfl rfl (rfl) ?_
        have g8 : ((-2147483648 : Int) ≤ σ.2.1 50 a ∧ σ.2.1 50 a ≤ 2147483647) := wf_50 hw h_a
        refine tn_istore_n (L' := [(3, .int (iI (σ.2.1 50 a))), (0, .ref a), (1, .int (iI c1)), (2, .int (iI i2))]) dX5_term_35 rfl (by decide) rfl ?_
        refine tn_aload_n dX5_term_36 rfl 1 rfl ?_
        refine tn_getI (ci := 5) (i := 18) (n := 51) (t := σ.2.1 51 a) dX5_term_37 rfl lay_5 (by decide) fl5_219 h_a rfl rfl (rfl) ?_
        have g9 : ((-2147483648 : Int) ≤ σ.2.1 51 a ∧ σ.2.1 51 a ≤ 2147483647) := wf_51 hw h_a
        refine tn_istore (L' := [(4, .int (iI (σ.2.1 51 a))), (3, .int (iI (σ.2.1 50 a))), (0, .ref a), (1, .int (iI c1)), (2, .int (iI i2))]) dX5_term_40 (by decide) rfl ?_
        refine tn_aload_n dX5_term_42 rfl 2 rfl ?_
        refine tn_getR (ci := 5) (i := 0) (n := 33) (x := x2) dX5_term_43 rfl lay_5 (by decide) fl5_12 h_a rfl rfl (hx3) ?_
        refine tn_callV (M := m_X5_term) (pc := 46) (ix := 93) (ci := 9) (M' := m_X9_next) (As := []) (rest := []) dX5_term_46 ok_X9_next im_X9_next se_X9_next ml5_93 np_X9_next rfl rfl hk4o rfl (Nat.le_of_ble_eq_true rfl) (Nat.le_of_ble_eq_true rfl) rfl (k_X9_next (d + 5 * lv + 11) (T := T) (σ := σ) (a := x2) hk4o hw (RP.tk hrp hw h_a (hx3))) (fun r10 T12 σ11 gt13 hp => ?_)
        obtain ⟨rfl, rfl, w18, F19, f14, f15, f16⟩ := hp
        clear gt13
        have rp20 : RP σ11 a (kp - 4) := RP.next4 hrp (hx3) F19 (by decide) (by decide) (by decide) f14 f16 (by rw [show σ.2.1 85 x2 = σ.2.1 85 x2 from rfl]; omega)
        show Tn _ _ 49 T σ11 [(4, .int (iI (σ.2.1 51 a))), (3, .int (iI (σ.2.1 50 a))), (0, .ref a), (1, .int (iI c1)), (2, .int (iI i2))] [] _
        refine tn_aload_n dX5_term_49 rfl 2 rfl ?_
        refine tn_iload_n dX5_term_50 rfl 3 rfl ?_
        refine tn_callV (M := m_X5_term) (pc := 51) (ix := 250) (ci := 5) (M' := m_X5_factor) (As := [.int (iI c1)]) (rest := []) dX5_term_51 ok_X5_factor im_X5_factor se_X5_factor ml5_250 np_X5_factor rfl rfl h_a rfl (Nat.le_of_ble_eq_true rfl) (Nat.le_of_ble_eq_true rfl) rfl (k_X5_factor (d) (T := T) (σ := σ11) (a := a) (dp := c1) (kp := kp - 4) (lv := lv) h_a (by omega) w18 hex (by omega) (by omega) (by omega) rp20) (fun r21 T23 σ22 gt24 hp => ?_)
        obtain ⟨v27, rfl, w28, F29, f25, f26⟩ := hp
        replace h_a : OB T23 a 5 := gt24.ob h_a
        have rp31 : RP σ22 a (kp - 4 * v27 - 4) := RP.up f26 (by omega)
        show Tn _ _ 54 T23 σ22 [(4, .int (iI (σ.2.1 51 a))), (3, .int (iI (σ.2.1 50 a))), (0, .ref a), (1, .int (iI c1)), (2, .int (iI i2))] [.int (iI v27)] _
        refine tn_if_ne (tgt := 59) dX5_term_54 (by decide) ⟨by omega, by omega⟩ (fun h32 => ?_) (fun h32 => ?_)
        · refine tn_aload_n dX5_term_59 rfl 2 rfl ?_
          refine tn_iconst dX5_term_60 ?_
          refine tn_iload_n dX5_term_61 rfl 1 rfl ?_
          refine tn_iload dX5_term_62 0 rfl ?_
          refine tn_callV (M := m_X5_term) (pc := 64) (ix := 244) (ci := 5) (M' := m_X5_join) (As := [.int (iI 3), .int (iI (σ.2.1 50 a)), .int (iI (σ.2.1 51 a))]) (rest := []) dX5_term_64 ok_X5_join im_X5_join se_X5_join ml5_244 np_X5_join rfl rfl h_a rfl (Nat.le_of_ble_eq_true rfl) (Nat.le_of_ble_eq_true rfl) rfl (k_X5_join (d + 5 * lv + 8) (T := T23) (σ := σ22) (a := a) (k := 3) (e := σ.2.1 50 a) (l := σ.2.1 51 a) (kp := kp - 4 * v27 - 4) h_a (by decide) (by omega) (by omega) w28 (by omega) (by omega) rp31) (fun r33 T35 σ34 gt36 hp => ?_)
          obtain ⟨rfl, w39, F40, f37⟩ := hp
          replace h_a : OB T35 a 5 := gt36.ob h_a
          have rp42 : RP σ34 a (kp - 4 * v27 - 3) := RP.up f37 (by omega)
          show Tn _ _ 67 T35 σ34 [(4, .int (iI (σ.2.1 51 a))), (3, .int (iI (σ.2.1 50 a))), (0, .ref a), (1, .int (iI c1)), (2, .int (iI i2))] [] _
          refine tn_iinc (q0 := 4) (L' := [(2, .int (iI (i2 + 1))), (4, .int (iI (σ.2.1 51 a))), (3, .int (iI (σ.2.1 50 a))), (0, .ref a), (1, .int (iI c1))]) dX5_term_67 rfl (by decide) rfl ?_
          refine tn_goto (tgt := 12) dX5_term_70 (by decide) ?_
          exact tn_sub [3, 4, 0] rfl (ih _ (by omega) T35 (i2 + 1) σ34 (GT.trans (GT.trans hG gt24) gt36) w39 ((((FrC.rfl.trans (FrC.sub hF (by decide))).trans (FrC.sub (FrC.old F19 hG) (by decide))).trans (FrC.sub (FrC.old F29 hG) (by decide))).trans (FrC.sub (FrC.old F40 (GT.trans hG gt24)) (by decide))) h_a (by omega) (RP.up rp42 (by omega)) rfl)
        · exact tn_sub [2, 3, 4] rfl (hx_57 T23 (i2) σ22 (GT.trans hG gt24) w28 (((FrC.rfl.trans (FrC.sub hF (by decide))).trans (FrC.sub (FrC.old F19 hG) (by decide))).trans (FrC.sub (FrC.old F29 hG) (by decide))) h_a (by omega) (RP.up rp31 (by omega)))
theorem dX5_term_57 : decode cX5_term 57 = .ok (.iconst 0, 1) := by decide +kernel
theorem dX5_term_58 : decode cX5_term 58 = .ok (.ireturn, 1) := by decide +kernel
theorem dX5_term_73 : decode cX5_term 73 = .ok (.iconst 1, 1) := by decide +kernel
theorem dX5_term_74 : decode cX5_term 74 = .ok (.ireturn, 1) := by decide +kernel
theorem dX5_term_8 : decode cX5_term 8 = .ok (.iconst 0, 1) := by decide +kernel
theorem dX5_term_9 : decode cX5_term 9 = .ok (.ireturn, 1) := by decide +kernel
set_option maxRecDepth 20000 in
theorem k_X5_term (d : Nat) {T : CT} {σ : MS} {a : Nat} {dp : Int} {kp : Int} {lv : Nat} (ha : OB T a 5) (h_dp : -2147483648 ≤ dp ∧ dp ≤ 2147483647) (hw : WT T σ) (hex : ∀ (d : Nat) {T : CT} {σ : MS} {a : Nat} {dp : Int} {kp : Int} (ha : OB T a 5) (h_dp : -2147483648 ≤ dp ∧ dp ≤ 2147483647) (hw : WT T σ) (hdp : 0 ≤ dp ∧ dp ≤ 9) (hlv : 9 ≤ dp + (lv : Int)) (hkp : kp ≤ 150) (hrp : RP σ a kp), Tn (d + 5 * lv + 10) m_X5_expression 0 T σ [(0, .ref a), (1, .int (iI dp))] [] (fun ro T2 σ2 => ∃ v : Int, ro = some (.int (iI v)) ∧ WT T2 σ2 ∧ FrC T [5, 6, 7, 43, 44, 47, 50, 51, 84, 85, 86, 87, 521] σ σ2 ∧ (v = 0 ∨ v = 1) ∧ (RP σ2 a (kp - 4 * v)))) (hdp : 0 ≤ dp ∧ dp ≤ 8) (hlv : 8 ≤ dp + (lv : Int)) (hkp : kp ≤ 150) (hrp : RP σ a kp) : Tn (d + 5 * lv + 13) m_X5_term 0 T σ [(0, .ref a), (1, .int (iI dp))] [] (fun ro T2 σ2 => ∃ v : Int, ro = some (.int (iI v)) ∧ WT T2 σ2 ∧ FrC T [5, 6, 7, 43, 44, 47, 50, 51, 84, 85, 86, 87, 521] σ σ2 ∧ (v = 0 ∨ v = 1) ∧ (RP σ2 a (kp - 4 * v))) := by
  refine tn_aload_n dX5_term_0 rfl 0 rfl ?_
  refine tn_iload_n dX5_term_1 rfl 1 rfl ?_
  refine tn_callV (M := m_X5_term) (pc := 2) (ix := 250) (ci := 5) (M' := m_X5_factor) (As := [.int (iI dp)]) (rest := []) dX5_term_2 ok_X5_factor im_X5_factor se_X5_factor ml5_250 np_X5_factor rfl rfl ha rfl (Nat.le_of_ble_eq_true rfl) (Nat.le_of_ble_eq_true rfl) rfl (k_X5_factor (d) (T := T) (σ := σ) (a := a) (dp := dp) (kp := kp) (lv := lv) ha (by omega) hw hex (by omega) (by omega) (by omega) hrp) (fun r1 T3 σ2 gt4 hp => ?_)
  obtain ⟨v7, rfl, w8, F9, f5, f6⟩ := hp
  replace ha : OB T3 a 5 := gt4.ob ha
  show Tn _ _ 5 T3 σ2 [(0, .ref a), (1, .int (iI dp))] [.int (iI v7)] _
  refine tn_if_ne (tgt := 10) dX5_term_5 (by decide) ⟨by omega, by omega⟩ (fun h11 => ?_) (fun h11 => ?_)
  · refine tn_iconst dX5_term_10 ?_
    refine tn_istore_n (L' := [(2, .int (iI 0)), (0, .ref a), (1, .int (iI dp))]) dX5_term_11 rfl (by decide) rfl ?_
    refine tn_sub [1, 2, 0] rfl (l_X5_term_12 (d) (σ0 := σ2) (T0 := T3) (a := a) (c1 := dp) (kp := kp - 4 * v7) (lv := lv) (by omega) w8 (by omega) (by omega) hex (fun T14 i212 σ13 gt15 w16 F17 q18 r19 f20 => ?_) (fun T23 i221 σ22 gt24 w25 F26 q27 r28 f29 => ?_) _ T3 (0) σ2 GT.rfl w8 FrC.rfl ha (by omega) f6 rfl)
    · show Tn _ _ 57 T14 σ13 [(0, .ref a), (1, .int (iI dp)), (2, .int (iI i212))] [] _
      refine tn_iconst dX5_term_57 ?_
      exact tn_zret (v := 0) rfl (by decide) dX5_term_58 ⟨_, rfl, w16, ((FrC.rfl.trans (FrC.sub F9 (by decide))).trans (FrC.sub (FrC.old F17 gt4) (by decide))), by omega, (RP.up f20 (by omega))⟩
    · show Tn _ _ 73 T23 σ22 [(0, .ref a), (1, .int (iI dp)), (2, .int (iI i221))] [] _
      refine tn_iconst dX5_term_73 ?_
      exact tn_zret (v := 1) rfl (by decide) dX5_term_74 ⟨_, rfl, w25, ((FrC.rfl.trans (FrC.sub F9 (by decide))).trans (FrC.sub (FrC.old F26 gt4) (by decide))), by omega, (RP.up f29 (by omega))⟩
  · refine tn_iconst dX5_term_8 ?_
    exact tn_zret (v := 0) rfl (by decide) dX5_term_9 ⟨_, rfl, w8, (FrC.rfl.trans (FrC.sub F9 (by decide))), by omega, (RP.up f6 (by omega))⟩
