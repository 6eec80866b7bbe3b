section
theorem cd_X5_sum : Cond.code yX5_sum cX5_sum 6 (some .boolean) ∈ pWW := pw3 (List.mem_of_getElem? (i := 169) rfl) rfl
abbrev m_X5_sum : MT := (yX5_sum, cX5_sum, 6, (some .boolean))
theorem ok_X5_sum : pOk m_X5_sum := ⟨⟨cd_X5_sum, ini_5⟩, by decide +kernel, ⟨by decide +kernel, by decide +kernel⟩, Nat.le_of_ble_eq_true rfl⟩
theorem np_X5_sum : (parseMethodDescriptor yX5_sum.desc).map (fun d => d.parameters.length) = some 1 := by decide +kernel
theorem im_X5_sum : Cond.instanceMethod yX5_sum ∈ pWW := pw3 (List.mem_of_getElem? (i := 168) rfl) rfl
theorem se_X5_sum : Cond.selects RX5 yX5_sum yX5_sum ∈ pWW := pws (List.mem_map.mpr ⟨_, lw_pin 19 rfl, rfl⟩) rfl
theorem ml5_247 : Cond.methodLink RX5 247 yX5_term ∈ pWW := pw3 (List.mem_of_getElem? (i := 170) rfl) rfl
theorem dX5_sum_0 : decode cX5_sum 0 = .ok (.aload_n 0, 1) := by decide +kernel
theorem dX5_sum_1 : decode cX5_sum 1 = .ok (.iload_n 1, 1) := by decide +kernel
theorem dX5_sum_2 : decode cX5_sum 2 = .ok (.invokevirtual 247, 3) := by decide +kernel
theorem dX5_sum_5 : decode cX5_sum 5 = .ok (.ifCond .ne 5, 3) := by decide +kernel
theorem dX5_sum_10 : decode cX5_sum 10 = .ok (.iconst 0, 1) := by decide +kernel
theorem dX5_sum_11 : decode cX5_sum 11 = .ok (.istore_n 2, 1) := by decide +kernel
theorem dX5_sum_12 : decode cX5_sum 12 = .ok (.iload_n 2, 1) := by decide +kernel
theorem dX5_sum_13 : decode cX5_sum 13 = .ok (.sipush 1200, 3) := by decide +kernel
theorem dX5_sum_16 : decode cX5_sum 16 = .ok (.if_icmp .ge 89, 3) := by decide +kernel
theorem dX5_sum_19 : decode cX5_sum 19 = .ok (.aload_n 0, 1) := by decide +kernel
theorem dX5_sum_20 : decode cX5_sum 20 = .ok (.getfield 12, 3) := by decide +kernel
theorem dX5_sum_23 : decode cX5_sum 23 = .ok (.getfield 71, 3) := by decide +kernel
theorem dX5_sum_26 : decode cX5_sum 26 = .ok (.bipush 43, 2) := by decide +kernel
theorem dX5_sum_28 : decode cX5_sum 28 = .ok (.if_icmp .eq 15, 3) := by decide +kernel
theorem dX5_sum_43 : decode cX5_sum 43 = .ok (.aload_n 0, 1) := by decide +kernel
theorem dX5_sum_44 : decode cX5_sum 44 = .ok (.getfield 12, 3) := by decide +kernel
theorem dX5_sum_47 : decode cX5_sum 47 = .ok (.getfield 71, 3) := by decide +kernel
theorem dX5_sum_50 : decode cX5_sum 50 = .ok (.bipush 43, 2) := by decide +kernel
theorem dX5_sum_52 : decode cX5_sum 52 = .ok (.if_icmp .ne 7, 3) := by decide +kernel
theorem dX5_sum_55 : decode cX5_sum 55 = .ok (.iconst 1, 1) := by decide +kernel
theorem dX5_sum_56 : decode cX5_sum 56 = .ok (.goto 4, 3) := by decide +kernel
theorem dX5_sum_60 : decode cX5_sum 60 = .ok (.istore_n 3, 1) := by decide +kernel
theorem dX5_sum_61 : decode cX5_sum 61 = .ok (.aload_n 0, 1) := by decide +kernel
theorem dX5_sum_62 : decode cX5_sum 62 = .ok (.getfield 216, 3) := by decide +kernel
theorem dX5_sum_65 : decode cX5_sum 65 = .ok (.istore 4, 2) := by decide +kernel
theorem dX5_sum_67 : decode cX5_sum 67 = .ok (.aload_n 0, 1) := by decide +kernel
theorem dX5_sum_68 : decode cX5_sum 68 = .ok (.getfield 219, 3) := by decide +kernel
theorem dX5_sum_71 : decode cX5_sum 71 = .ok (.istore 5, 2) := by decide +kernel
theorem dX5_sum_73 : decode cX5_sum 73 = .ok (.aload_n 0, 1) := by decide +kernel
theorem dX5_sum_74 : decode cX5_sum 74 = .ok (.getfield 12, 3) := by decide +kernel
theorem dX5_sum_77 : decode cX5_sum 77 = .ok (.invokevirtual 93, 3) := by decide +kernel
theorem dX5_sum_80 : decode cX5_sum 80 = .ok (.aload_n 0, 1) := by decide +kernel
theorem dX5_sum_81 : decode cX5_sum 81 = .ok (.iload_n 1, 1) := by decide +kernel
theorem dX5_sum_82 : decode cX5_sum 82 = .ok (.invokevirtual 247, 3) := by decide +kernel
theorem dX5_sum_85 : decode cX5_sum 85 = .ok (.ifCond .ne 5, 3) := by decide +kernel
theorem dX5_sum_90 : decode cX5_sum 90 = .ok (.aload_n 0, 1) := by decide +kernel
theorem dX5_sum_91 : decode cX5_sum 91 = .ok (.iload_n 3, 1) := by decide +kernel
theorem dX5_sum_92 : decode cX5_sum 92 = .ok (.iload 4, 2) := by decide +kernel
theorem dX5_sum_94 : decode cX5_sum 94 = .ok (.iload 5, 2) := by decide +kernel
theorem dX5_sum_96 : decode cX5_sum 96 = .ok (.invokevirtual 244, 3) := by decide +kernel
theorem dX5_sum_99 : decode cX5_sum 99 = .ok (.iinc 2 1, 3) := by decide +kernel
theorem dX5_sum_102 : decode cX5_sum 102 = .ok (.goto (-90), 3) := by decide +kernel
theorem dX5_sum_31 : decode cX5_sum 31 = .ok (.aload_n 0, 1) := by decide +kernel
theorem dX5_sum_32 : decode cX5_sum 32 = .ok (.getfield 12, 3) := by decide +kernel
theorem dX5_sum_35 : decode cX5_sum 35 = .ok (.getfield 71, 3) := by decide +kernel
theorem dX5_sum_38 : decode cX5_sum 38 = .ok (.bipush 45, 2) := by decide +kernel
theorem dX5_sum_40 : decode cX5_sum 40 = .ok (.if_icmp .ne 65, 3) := by decide +kernel
theorem dX5_sum_59 : decode cX5_sum 59 = .ok (.iconst 2, 1) := by decide +kernel
set_option maxRecDepth 20000 in
theorem l_X5_sum_12 (d : Nat) {T0 : CT} {σ0 : MS} {a : Nat} {c1 : Int} {kp : Int} {lv : Nat} {post : Option Value → CT → MS → Prop} (r_c1 : 0 ≤ c1 ∧ c1 ≤ 8) (hw0 : WT T0 σ0) (hlv : 8 ≤ c1 + (lv : Int)) (hkp : kp ≤ 150) (hex : ∀ (d : Nat) {T : CT} {σ : MS} {a : Nat} {dp : Int} {kp : Int} (ha : OB T a 5) (h_dp : -2147483648 ≤ dp ∧ dp ≤ 2147483647) (hw : WT T σ) (hdp : 0 ≤ dp ∧ dp ≤ 9) (hlv : 9 ≤ dp + (lv : Int)) (hkp : kp ≤ 150) (hrp : RP σ a kp), Tn (d + 5 * lv + 10) m_X5_expression 0 T σ [(0, .ref a), (1, .int (iI dp))] [] (fun ro T2 σ2 => ∃ v : Int, ro = some (.int (iI v)) ∧ WT T2 σ2 ∧ FrC T [5, 6, 7, 43, 44, 47, 50, 51, 84, 85, 86, 87, 521] σ σ2 ∧ (v = 0 ∨ v = 1) ∧ (RP σ2 a (kp - 4 * v)))) (hx_88 : ∀ (T : CT) (i2 : Int) (σ : MS) , (GT T0 T) → (WT T σ) → (FrC T0 [5, 6, 7, 43, 44, 47, 50, 51, 84, 85, 86, 87, 521] σ0 σ) → (OB T a 5) → (0 ≤ i2 ∧ i2 ≤ 2147483647) → (RP σ a kp) → Tn (d + 5 * lv + 14) m_X5_sum 88 T σ [(0, .ref a), (1, .int (iI c1)), (2, .int (iI i2))] [] post) (hx_105 : ∀ (T : CT) (i2 : Int) (σ : MS) , (GT T0 T) → (WT T σ) → (FrC T0 [5, 6, 7, 43, 44, 47, 50, 51, 84, 85, 86, 87, 521] σ0 σ) → (OB T a 5) → (0 ≤ i2 ∧ i2 ≤ 2147483647) → (RP σ a kp) → Tn (d + 5 * lv + 14) m_X5_sum 105 T σ [(0, .ref a), (1, .int (iI c1)), (2, .int (iI i2))] [] post) : ∀ (n : Nat) (T : CT) (i2 : Int) (σ : MS) , (GT T0 T) → (WT T σ) → (FrC T0 [5, 6, 7, 43, 44, 47, 50, 51, 84, 85, 86, 87, 521] σ0 σ) → (OB T a 5) → (0 ≤ i2 ∧ i2 ≤ 2147483647) → (RP σ a kp) → (2147483700 - i2).toNat = n → Tn (d + 5 * lv + 14) m_X5_sum 12 T σ [(0, .ref a), (1, .int (iI c1)), (2, .int (iI i2))] [] post := by
  intro n
  induction n using Nat.strongRecOn with
  | _ n ih =>
    intro T i2 σ hG hw hF h_a r_i2 hrp hm
    refine tn_iload_n dX5_sum_12 rfl 2 rfl ?_
    refine tn_sipush dX5_sum_13 (by decide) ?_
    refine tn_icmp_ge (tgt := 105) dX5_sum_16 (by decide) ⟨by omega, by omega⟩ ⟨by decide, by decide⟩ (fun h1 => ?_) (fun h1 => ?_)
    · exact tn_sub [0, 1, 2] rfl (hx_105 T (i2) σ hG hw (FrC.rfl.trans (FrC.sub hF (by decide))) h_a (by omega) (RP.up hrp (by omega)))
    · refine tn_aload_n dX5_sum_19 rfl 0 rfl ?_
      obtain ⟨x2, hx3, hk4⟩ : ∃ x : Nat, σ.2.1 33 a = (x : Int) ∧ (T x).1 = 39 := wf_33 hw h_a
      have hk4o : OB T x2 9 := ⟨by omega, by rw [hk4]; rfl, by omega⟩
      refine tn_getR (ci := 5) (i := 0) (n := 33) (x := x2) dX5_sum_20 rfl lay_5 (by decide) fl5_12 h_a rfl rfl (hx3) ?_
      refine tn_getI (ci := 9) (i := 4) (n := 85) (t := σ.2.1 85 x2) dX5_sum_23 rfl lay_9 (by decide) fl5_71 hk4o rfl rfl (rfl) ?_
      have g6 : ((-2147483648 : Int) ≤ σ.2.1 85 x2 ∧ σ.2.1 85 x2 ≤ 2147483647) := wf_85 hw hk4o
      refine tn_bipush dX5_sum_26 (by decide) ?_
      refine tn_icmp_eq (tgt := 43) dX5_sum_28 (by decide) ⟨by omega, by omega⟩ ⟨by decide, by decide⟩ (fun h7 => ?_) (fun h7 => ?_)
      · refine tn_aload_n dX5_sum_43 rfl 0 rfl ?_
        refine tn_getR (ci := 5) (i := 0) (n := 33) (x := x2) dX5_sum_44 rfl lay_5 (by decide) fl5_12 h_a rfl rfl (hx3) ?_
        refine tn_getI (ci := 9) (i := 4) (n := 85) (t := σ.2.1 85 x2) dX5_sum_47 rfl lay_9 (by decide) fl5_71 hk4o rfl rfl (rfl) ?_
        refine tn_bipush dX5_sum_50 (by decide) ?_
        refine tn_icmp_ne (tgt := 59) dX5_sum_52 (by decide) ⟨by omega, by omega⟩ ⟨by decide, by decide⟩ (fun h8 => absurd h8 (by omega)) (fun h8 => ?_)
        refine tn_iconst dX5_sum_55 ?_
        refine tn_goto (tgt := 60) dX5_sum_56 (by decide) ?_
        refine tn_istore_n (L' := [(3, .int (iI 1)), (0, .ref a), (1, .int (iI c1)), (2, .int (iI i2))]) dX5_sum_60 rfl (by decide) rfl ?_
        refine tn_aload_n dX5_sum_61 rfl 1 rfl ?_
        refine tn_getI (ci := 5) (i := 17) (n := 50) (t := σ.2.1 50 a) dX5_sum_62 rfl lay_5 (by decide) fl5_216 h_a rfl rfl (rfl) ?_
        have g9 : ((-2147483648 : Int) ≤ σ.2.1 50 a ∧ σ.2.1 50 a ≤ 2147483647) := wf_50 hw h_a
        refine tn_istore (L' := [(4, .int (iI (σ.2.1 50 a))), (3, .int (iI 1)), (0, .ref a), (1, .int (iI c1)), (2, .int (iI i2))]) dX5_sum_65 (by decide) rfl ?_
        refine tn_aload_n dX5_sum_67 rfl 2 rfl ?_
        refine tn_getI (ci := 5) (i := 18) (n := 51) (t := σ.2.1 51 a) dX5_sum_68 rfl lay_5 (by decide) fl5_219 h_a rfl rfl (rfl) ?_
        have g10 : ((-2147483648 : Int) ≤ σ.2.1 51 a ∧ σ.2.1 51 a ≤ 2147483647) := wf_51 hw h_a
        refine tn_istore (L' := [(5, .int (iI (σ.2.1 51 a))), (4, .int (iI (σ.2.1 50 a))), (3, .int (iI 1)), (0, .ref a), (1, .int (iI c1)), (2, .int (iI i2))]) dX5_sum_71 (by decide) rfl ?_
        refine tn_aload_n dX5_sum_73 rfl 3 rfl ?_
        refine tn_getR (ci := 5) (i := 0) (n := 33) (x := x2) dX5_sum_74 rfl lay_5 (by decide) fl5_12 h_a rfl rfl (hx3) ?_
        refine tn_callV (M := m_X5_sum) (pc := 77) (ix := 93) (ci := 9) (M' := m_X9_next) (As := []) (rest := []) dX5_sum_77 ok_X9_next im_X9_next se_X9_next ml5_93 np_X9_next rfl rfl hk4o rfl (Nat.le_of_ble_eq_true rfl) (Nat.le_of_ble_eq_true rfl) rfl (k_X9_next (d + 5 * lv + 12) (T := T) (σ := σ) (a := x2) hk4o hw (RP.tk hrp hw h_a (hx3))) (fun r11 T13 σ12 gt14 hp => ?_)
        obtain ⟨rfl, rfl, w19, F20, f15, f16, f17⟩ := hp
        clear gt14
        have rp21 : RP σ12 a (kp - 4) := RP.next4 hrp (hx3) F20 (by decide) (by decide) (by decide) f15 f17 (by rw [show σ.2.1 85 x2 = σ.2.1 85 x2 from rfl]; omega)
        show Tn _ _ 80 T σ12 [(5, .int (iI (σ.2.1 51 a))), (4, .int (iI (σ.2.1 50 a))), (3, .int (iI 1)), (0, .ref a), (1, .int (iI c1)), (2, .int (iI i2))] [] _
        refine tn_aload_n dX5_sum_80 rfl 3 rfl ?_
        refine tn_iload_n dX5_sum_81 rfl 4 rfl ?_
        refine tn_callV (M := m_X5_sum) (pc := 82) (ix := 247) (ci := 5) (M' := m_X5_term) (As := [.int (iI c1)]) (rest := []) dX5_sum_82 ok_X5_term im_X5_term se_X5_term ml5_247 np_X5_term rfl rfl h_a rfl (Nat.le_of_ble_eq_true rfl) (Nat.le_of_ble_eq_true rfl) rfl (k_X5_term (d) (T := T) (σ := σ12) (a := a) (dp := c1) (kp := kp - 4) (lv := lv) h_a (by omega) w19 hex (by omega) (by omega) (by omega) rp21) (fun r22 T24 σ23 gt25 hp => ?_)
        obtain ⟨v28, rfl, w29, F30, f26, f27⟩ := hp
        replace h_a : OB T24 a 5 := gt25.ob h_a
        have rp32 : RP σ23 a (kp - 4 * v28 - 4) := RP.up f27 (by omega)
        show Tn _ _ 85 T24 σ23 [(5, .int (iI (σ.2.1 51 a))), (4, .int (iI (σ.2.1 50 a))), (3, .int (iI 1)), (0, .ref a), (1, .int (iI c1)), (2, .int (iI i2))] [.int (iI v28)] _
        refine tn_if_ne (tgt := 90) dX5_sum_85 (by decide) ⟨by omega, by omega⟩ (fun h33 => ?_) (fun h33 => ?_)
        · refine tn_aload_n dX5_sum_90 rfl 3 rfl ?_
          refine tn_iload_n dX5_sum_91 rfl 2 rfl ?_
          refine tn_iload dX5_sum_92 1 rfl ?_
          refine tn_iload dX5_sum_94 0 rfl ?_
          refine tn_callV (M := m_X5_sum) (pc := 96) (ix := 244) (ci := 5) (M' := m_X5_join) (As := [.int (iI 1), .int (iI (σ.2.1 50 a)), .int (iI (σ.2.1 51 a))]) (rest := []) dX5_sum_96 ok_X5_join im_X5_join se_X5_join ml5_244 np_X5_join rfl rfl h_a rfl (Nat.le_of_ble_eq_true rfl) (Nat.le_of_ble_eq_true rfl) rfl (k_X5_join (d + 5 * lv + 9) (T := T24) (σ := σ23) (a := a) (k := 1) (e := σ.2.1 50 a) (l := σ.2.1 51 a) (kp := kp - 4 * v28 - 4) h_a (by decide) (by omega) (by omega) w29 (by omega) (by omega) rp32) (fun r34 T36 σ35 gt37 hp => ?_)
          obtain ⟨rfl, w40, F41, f38⟩ := hp
          replace h_a : OB T36 a 5 := gt37.ob h_a
          have rp43 : RP σ35 a (kp - 4 * v28 - 3) := RP.up f38 (by omega)
          show Tn _ _ 99 T36 σ35 [(5, .int (iI (σ.2.1 51 a))), (4, .int (iI (σ.2.1 50 a))), (3, .int (iI 1)), (0, .ref a), (1, .int (iI c1)), (2, .int (iI i2))] [] _
          refine tn_iinc (q0 := 5) (L' := [(2, .int (iI (i2 + 1))), (5, .int (iI (σ.2.1 51 a))), (4, .int (iI (σ.2.1 50 a))), (3, .int (iI 1)), (0, .ref a), (1, .int (iI c1))]) dX5_sum_99 rfl (by decide) rfl ?_
          refine tn_goto (tgt := 12) dX5_sum_102 (by decide) ?_
          exact tn_sub [4, 5, 0] rfl (ih _ (by omega) T36 (i2 + 1) σ35 (GT.trans (GT.trans hG gt25) gt37) w40 ((((FrC.rfl.trans (FrC.sub hF (by decide))).trans (FrC.sub (FrC.old F20 hG) (by decide))).trans (FrC.sub (FrC.old F30 hG) (by decide))).trans (FrC.sub (FrC.old F41 (GT.trans hG gt25)) (by decide))) h_a (by omega) (RP.up rp43 (by omega)) rfl)
        · exact tn_sub [3, 4, 5] rfl (hx_88 T24 (i2) σ23 (GT.trans hG gt25) w29 (((FrC.rfl.trans (FrC.sub hF (by decide))).trans (FrC.sub (FrC.old F20 hG) (by decide))).trans (FrC.sub (FrC.old F30 hG) (by decide))) h_a (by omega) (RP.up rp32 (by omega)))
      · refine tn_aload_n dX5_sum_31 rfl 0 rfl ?_
        refine tn_getR (ci := 5) (i := 0) (n := 33) (x := x2) dX5_sum_32 rfl lay_5 (by decide) fl5_12 h_a rfl rfl (hx3) ?_
        refine tn_getI (ci := 9) (i := 4) (n := 85) (t := σ.2.1 85 x2) dX5_sum_35 rfl lay_9 (by decide) fl5_71 hk4o rfl rfl (rfl) ?_
        refine tn_bipush dX5_sum_38 (by decide) ?_
        refine tn_icmp_ne (tgt := 105) dX5_sum_40 (by decide) ⟨by omega, by omega⟩ ⟨by decide, by decide⟩ (fun h44 => ?_) (fun h44 => ?_)
        · exact tn_sub [0, 1, 2] rfl (hx_105 T (i2) σ hG hw (FrC.rfl.trans (FrC.sub hF (by decide))) h_a (by omega) (RP.up hrp (by omega)))
        · refine tn_aload_n dX5_sum_43 rfl 0 rfl ?_
          refine tn_getR (ci := 5) (i := 0) (n := 33) (x := x2) dX5_sum_44 rfl lay_5 (by decide) fl5_12 h_a rfl rfl (hx3) ?_
          refine tn_getI (ci := 9) (i := 4) (n := 85) (t := σ.2.1 85 x2) dX5_sum_47 rfl lay_9 (by decide) fl5_71 hk4o rfl rfl (rfl) ?_
          refine tn_bipush dX5_sum_50 (by decide) ?_
          refine tn_icmp_ne (tgt := 59) dX5_sum_52 (by decide) ⟨by omega, by omega⟩ ⟨by decide, by decide⟩ (fun h45 => ?_) (fun h45 => absurd h45 (by omega))
          refine tn_iconst dX5_sum_59 ?_
          refine tn_istore_n (L' := [(3, .int (iI 2)), (0, .ref a), (1, .int (iI c1)), (2, .int (iI i2))]) dX5_sum_60 rfl (by decide) rfl ?_
          refine tn_aload_n dX5_sum_61 rfl 1 rfl ?_
          refine tn_getI (ci := 5) (i := 17) (n := 50) (t := σ.2.1 50 a) dX5_sum_62 rfl lay_5 (by decide) fl5_216 h_a rfl rfl (rfl) ?_
          have g46 : ((-2147483648 : Int) ≤ σ.2.1 50 a ∧ σ.2.1 50 a ≤ 2147483647) := wf_50 hw h_a
          refine tn_istore (L' := [(4, .int (iI (σ.2.1 50 a))), (3, .int (iI 2)), (0, .ref a), (1, .int (iI c1)), (2, .int (iI i2))]) dX5_sum_65 (by decide) rfl ?_
          refine tn_aload_n dX5_sum_67 rfl 2 rfl ?_
          refine tn_getI (ci := 5) (i := 18) (n := 51) (t := σ.2.1 51 a) dX5_sum_68 rfl lay_5 (by decide) fl5_219 h_a rfl rfl (rfl) ?_
          have g47 : ((-2147483648 : Int) ≤ σ.2.1 51 a ∧ σ.2.1 51 a ≤ 2147483647) := wf_51 hw h_a
          refine tn_istore (L' := [(5, .int (iI (σ.2.1 51 a))), (4, .int (iI (σ.2.1 50 a))), (3, .int (iI 2)), (0, .ref a), (1, .int (iI c1)), (2, .int (iI i2))]) dX5_sum_71 (by decide) rfl ?_
          refine tn_aload_n dX5_sum_73 rfl 3 rfl ?_
          refine tn_getR (ci := 5) (i := 0) (n := 33) (x := x2) dX5_sum_74 rfl lay_5 (by decide) fl5_12 h_a rfl rfl (hx3) ?_
          refine tn_callV (M := m_X5_sum) (pc := 77) (ix := 93) (ci := 9) (M' := m_X9_next) (As := []) (rest := []) dX5_sum_77 ok_X9_next im_X9_next se_X9_next ml5_93 np_X9_next rfl rfl hk4o rfl (Nat.le_of_ble_eq_true rfl) (Nat.le_of_ble_eq_true rfl) rfl (k_X9_next (d + 5 * lv + 12) (T := T) (σ := σ) (a := x2) hk4o hw (RP.tk hrp hw h_a (hx3))) (fun r48 T50 σ49 gt51 hp => ?_)
          obtain ⟨rfl, rfl, w56, F57, f52, f53, f54⟩ := hp
          clear gt51
          have rp58 : RP σ49 a (kp - 4) := RP.next4 hrp (hx3) F57 (by decide) (by decide) (by decide) f52 f54 (by rw [show σ.2.1 85 x2 = σ.2.1 85 x2 from rfl]; omega)
          show Tn _ _ 80 T σ49 [(5, .int (iI (σ.2.1 51 a))), (4, .int (iI (σ.2.1 50 a))), (3, .int (iI 2)), (0, .ref a), (1, .int (iI c1)), (2, .int (iI i2))] [] _
          refine tn_aload_n dX5_sum_80 rfl 3 rfl ?_
          refine tn_iload_n dX5_sum_81 rfl 4 rfl ?_
          refine tn_callV (M := m_X5_sum) (pc := 82) (ix := 247) (ci := 5) (M' := m_X5_term) (As := [.int (iI c1)]) (rest := []) dX5_sum_82 ok_X5_term im_X5_term se_X5_term ml5_247 np_X5_term rfl rfl h_a rfl (Nat.le_of_ble_eq_true rfl) (Nat.le_of_ble_eq_true rfl) rfl (k_X5_term (d) (T := T) (σ := σ49) (a := a) (dp := c1) (kp := kp - 4) (lv := lv) h_a (by omega) w56 hex (by omega) (by omega) (by omega) rp58) (fun r59 T61 σ60 gt62 hp => ?_)
          obtain ⟨v65, rfl, w66, F67, f63, f64⟩ := hp
          replace h_a : OB T61 a 5 := gt62.ob h_a
          have rp69 : RP σ60 a (kp - 4 * v65 - 4) := RP.up f64 (by omega)
          show Tn _ _ 85 T61 σ60 [(5, .int (iI (σ.2.1 51 a))), (4, .int (iI (σ.2.1 50 a))), (3, .int (iI 2)), (0, .ref a), (1, .int (iI c1)), (2, .int (iI i2))] [.int (iI v65)] _
          refine tn_if_ne (tgt := 90) dX5_sum_85 (by decide) ⟨by omega, by omega⟩ (fun h70 => ?_) (fun h70 => ?_)
          · refine tn_aload_n dX5_sum_90 rfl 3 rfl ?_
            refine tn_iload_n dX5_sum_91 rfl 2 rfl ?_
            refine tn_iload dX5_sum_92 1 rfl ?_
            refine tn_iload dX5_sum_94 0 rfl ?_
            refine tn_callV (M := m_X5_sum) (pc := 96) (ix := 244) (ci := 5) (M' := m_X5_join) (As := [.int (iI 2), .int (iI (σ.2.1 50 a)), .int (iI (σ.2.1 51 a))]) (rest := []) dX5_sum_96 ok_X5_join im_X5_join se_X5_join ml5_244 np_X5_join rfl rfl h_a rfl (Nat.le_of_ble_eq_true rfl) (Nat.le_of_ble_eq_true rfl) rfl (k_X5_join (d + 5 * lv + 9) (T := T61) (σ := σ60) (a := a) (k := 2) (e := σ.2.1 50 a) (l := σ.2.1 51 a) (kp := kp - 4 * v65 - 4) h_a (by decide) (by omega) (by omega) w66 (by omega) (by omega) rp69) (fun r71 T73 σ72 gt74 hp => ?_)
            obtain ⟨rfl, w77, F78, f75⟩ := hp
            replace h_a : OB T73 a 5 := gt74.ob h_a
            have rp80 : RP σ72 a (kp - 4 * v65 - 3) := RP.up f75 (by omega)
            show Tn _ _ 99 T73 σ72 [(5, .int (iI (σ.2.1 51 a))), (4, .int (iI (σ.2.1 50 a))), (3, .int (iI 2)), (0, .ref a), (1, .int (iI c1)), (2, .int (iI i2))] [] _
            refine tn_iinc (q0 := 5) (L' := [(2, .int (iI (i2 + 1))), (5, .int (iI (σ.2.1 51 a))), (4, .int (iI (σ.2.1 50 a))), (3, .int (iI 2)), (0, .ref a), (1, .int (iI c1))]) dX5_sum_99 rfl (by decide) rfl ?_
            refine tn_goto (tgt := 12) dX5_sum_102 (by decide) ?_
            exact tn_sub [4, 5, 0] rfl (ih _ (by omega) T73 (i2 + 1) σ72 (GT.trans (GT.trans hG gt62) gt74) w77 ((((FrC.rfl.trans (FrC.sub hF (by decide))).trans (FrC.sub (FrC.old F57 hG) (by decide))).trans (FrC.sub (FrC.old F67 hG) (by decide))).trans (FrC.sub (FrC.old F78 (GT.trans hG gt62)) (by decide))) h_a (by omega) (RP.up rp80 (by omega)) rfl)
          · exact tn_sub [3, 4, 5] rfl (hx_88 T61 (i2) σ60 (GT.trans hG gt62) w66 (((FrC.rfl.trans (FrC.sub hF (by decide))).trans (FrC.sub (FrC.old F57 hG) (by decide))).trans (FrC.sub (FrC.old F67 hG) (by decide))) h_a (by omega) (RP.up rp69 (by omega)))
theorem dX5_sum_88 : decode cX5_sum 88 = .ok (.iconst 0, 1) := by decide +kernel
theorem dX5_sum_89 : decode cX5_sum 89 = .ok (.ireturn, 1) := by decide +kernel
theorem dX5_sum_105 : decode cX5_sum 105 = .ok (.iconst 1, 1) := by decide +kernel
theorem dX5_sum_106 : decode cX5_sum 106 = .ok (.ireturn, 1) := by decide +kernel
theorem dX5_sum_8 : decode cX5_sum 8 = .ok (.iconst 0, 1) := by decide +kernel
theorem dX5_sum_9 : decode cX5_sum 9 = .ok (.ireturn, 1) := by decide +kernel
set_option maxRecDepth 20000 in
theorem k_X5_sum (d : Nat) {T : CT} {σ : MS} {a : Nat} {dp : Int} {kp : Int} {lv : Nat} (ha : OB T a 5) (h_dp : -2147483648 ≤ dp ∧ dp ≤ 2147483647) (hw : WT T σ) (hex : ∀ (d : Nat) {T : CT} {σ : MS} {a : Nat} {dp : Int} {kp : Int} (ha : OB T a 5) (h_dp : -2147483648 ≤ dp ∧ dp ≤ 2147483647) (hw : WT T σ) (hdp : 0 ≤ dp ∧ dp ≤ 9) (hlv : 9 ≤ dp + (lv : Int)) (hkp : kp ≤ 150) (hrp : RP σ a kp), Tn (d + 5 * lv + 10) m_X5_expression 0 T σ [(0, .ref a), (1, .int (iI dp))] [] (fun ro T2 σ2 => ∃ v : Int, ro = some (.int (iI v)) ∧ WT T2 σ2 ∧ FrC T [5, 6, 7, 43, 44, 47, 50, 51, 84, 85, 86, 87, 521] σ σ2 ∧ (v = 0 ∨ v = 1) ∧ (RP σ2 a (kp - 4 * v)))) (hdp : 0 ≤ dp ∧ dp ≤ 8) (hlv : 8 ≤ dp + (lv : Int)) (hkp : kp ≤ 150) (hrp : RP σ a kp) : Tn (d + 5 * lv + 14) m_X5_sum 0 T σ [(0, .ref a), (1, .int (iI dp))] [] (fun ro T2 σ2 => ∃ v : Int, ro = some (.int (iI v)) ∧ WT T2 σ2 ∧ FrC T [5, 6, 7, 43, 44, 47, 50, 51, 84, 85, 86, 87, 521] σ σ2 ∧ (v = 0 ∨ v = 1) ∧ (RP σ2 a (kp - 4 * v))) := by
  refine tn_aload_n dX5_sum_0 rfl 0 rfl ?_
  refine tn_iload_n dX5_sum_1 rfl 1 rfl ?_
  refine tn_callV (M := m_X5_sum) (pc := 2) (ix := 247) (ci := 5) (M' := m_X5_term) (As := [.int (iI dp)]) (rest := []) dX5_sum_2 ok_X5_term im_X5_term se_X5_term ml5_247 np_X5_term rfl rfl ha rfl (Nat.le_of_ble_eq_true rfl) (Nat.le_of_ble_eq_true rfl) rfl (k_X5_term (d) (T := T) (σ := σ) (a := a) (dp := dp) (kp := kp) (lv := lv) ha (by omega) hw hex (by omega) (by omega) (by omega) hrp) (fun r1 T3 σ2 gt4 hp => ?_)
  obtain ⟨v7, rfl, w8, F9, f5, f6⟩ := hp
  replace ha : OB T3 a 5 := gt4.ob ha
  show Tn _ _ 5 T3 σ2 [(0, .ref a), (1, .int (iI dp))] [.int (iI v7)] _
  refine tn_if_ne (tgt := 10) dX5_sum_5 (by decide) ⟨by omega, by omega⟩ (fun h11 => ?_) (fun h11 => ?_)
  · refine tn_iconst dX5_sum_10 ?_
    refine tn_istore_n (L' := [(2, .int (iI 0)), (0, .ref a), (1, .int (iI dp))]) dX5_sum_11 rfl (by decide) rfl ?_
    refine tn_sub [1, 2, 0] rfl (l_X5_sum_12 (d) (σ0 := σ2) (T0 := T3) (a := a) (c1 := dp) (kp := kp - 4 * v7) (lv := lv) (by omega) w8 (by omega) (by omega) hex (fun T14 i212 σ13 gt15 w16 F17 q18 r19 f20 => ?_) (fun T23 i221 σ22 gt24 w25 F26 q27 r28 f29 => ?_) _ T3 (0) σ2 GT.rfl w8 FrC.rfl ha (by omega) f6 rfl)
    · show Tn _ _ 88 T14 σ13 [(0, .ref a), (1, .int (iI dp)), (2, .int (iI i212))] [] _
      refine tn_iconst dX5_sum_88 ?_
      exact tn_zret (v := 0) rfl (by decide) dX5_sum_89 ⟨_, rfl, w16, ((FrC.rfl.trans (FrC.sub F9 (by decide))).trans (FrC.sub (FrC.old F17 gt4) (by decide))), by omega, (RP.up f20 (by omega))⟩
    · show Tn _ _ 105 T23 σ22 [(0, .ref a), (1, .int (iI dp)), (2, .int (iI i221))] [] _
      refine tn_iconst dX5_sum_105 ?_
      exact tn_zret (v := 1) rfl (by decide) dX5_sum_106 ⟨_, rfl, w25, ((FrC.rfl.trans (FrC.sub F9 (by decide))).trans (FrC.sub (FrC.old F26 gt4) (by decide))), by omega, (RP.up f29 (by omega))⟩
  · refine tn_iconst dX5_sum_8 ?_
    exact tn_zret (v := 0) rfl (by decide) dX5_sum_9 ⟨_, rfl, w8, (FrC.rfl.trans (FrC.sub F9 (by decide))), by omega, (RP.up f6 (by omega))⟩
end
section
theorem dX5_expression_0 : decode cX5_expression 0 = .ok (.iload_n 1, 1) := by decide +kernel
theorem dX5_expression_1 : decode cX5_expression 1 = .ok (.bipush 8, 2) := by decide +kernel
theorem dX5_expression_3 : decode cX5_expression 3 = .ok (.if_icmp .le 8, 3) := by decide +kernel
theorem dX5_expression_6 : decode cX5_expression 6 = .ok (.aload_n 0, 1) := by decide +kernel
theorem dX5_expression_7 : decode cX5_expression 7 = .ok (.invokevirtual 90, 3) := by decide +kernel
theorem dX5_expression_10 : decode cX5_expression 10 = .ok (.ireturn, 1) := by decide +kernel
set_option maxRecDepth 20000 in
theorem k_X5_expression_0 (d : Nat) {T : CT} {σ : MS} {a : Nat} {dp : Int} {kp : Int} (ha : OB T a 5) (h_dp : -2147483648 ≤ dp ∧ dp ≤ 2147483647) (hw : WT T σ) (h9 : 9 ≤ dp) (hkp : kp ≤ 150) (hrp : RP σ a kp) : Tn (d + 10) m_X5_expression 0 T σ [(0, .ref a), (1, .int (iI dp))] [] (fun ro T2 σ2 => ∃ v : Int, ro = some (.int (iI v)) ∧ WT T2 σ2 ∧ FrC T [5, 6, 7, 43, 44, 47, 50, 51, 84, 85, 86, 87, 521] σ σ2 ∧ (v = 0 ∨ v = 1) ∧ (RP σ2 a (kp - 4 * v))) := by
  refine tn_iload_n dX5_expression_0 rfl 1 rfl ?_
  refine tn_bipush dX5_expression_1 (by decide) ?_
  refine tn_icmp_le (tgt := 11) dX5_expression_3 (by decide) ⟨by omega, by omega⟩ ⟨by decide, by decide⟩ (fun h1 => absurd h1 (by omega)) (fun h1 => ?_)
  refine tn_aload_n dX5_expression_6 rfl 0 rfl ?_
  refine tn_callV (M := m_X5_expression) (pc := 7) (ix := 90) (ci := 5) (M' := m_X5_refuse) (As := []) (rest := []) dX5_expression_7 ok_X5_refuse im_X5_refuse se_X5_refuse ml5_90 np_X5_refuse rfl rfl ha rfl (Nat.le_of_ble_eq_true rfl) (Nat.le_of_ble_eq_true rfl) rfl (k_X5_refuse (d + 8) (T := T) (σ := σ) (a := a) ha hw ) (fun r2 T4 σ3 gt5 hp => ?_)
  obtain ⟨v8, rfl, rfl, w9, F10, f6, f7⟩ := hp
  clear gt5
  have rp11 : RP σ3 a (kp) := RP.frc hrp F10 (by decide) (by decide) (by decide) (by decide) (by decide)
  show Tn _ _ 10 T σ3 [(0, .ref a), (1, .int (iI dp))] [.int (iI v8)] _
  exact tn_zret (v := v8) rfl (by omega) dX5_expression_10 ⟨_, rfl, w9, (FrC.rfl.trans (FrC.sub F10 (by decide))), by omega, (RP.up rp11 (by omega))⟩
end
section
theorem ml5_241 : Cond.methodLink RX5 241 yX5_sum ∈ pWW := pw3 (List.mem_of_getElem? (i := 166) rfl) rfl
theorem dX5_expression_11 : decode cX5_expression 11 = .ok (.aload_n 0, 1) := by decide +kernel
theorem dX5_expression_12 : decode cX5_expression 12 = .ok (.iload_n 1, 1) := by decide +kernel
theorem dX5_expression_13 : decode cX5_expression 13 = .ok (.invokevirtual 241, 3) := by decide +kernel
theorem dX5_expression_16 : decode cX5_expression 16 = .ok (.ifCond .ne 5, 3) := by decide +kernel
theorem dX5_expression_21 : decode cX5_expression 21 = .ok (.aload_n 0, 1) := by decide +kernel
theorem dX5_expression_22 : decode cX5_expression 22 = .ok (.getfield 12, 3) := by decide +kernel
theorem dX5_expression_25 : decode cX5_expression 25 = .ok (.getfield 71, 3) := by decide +kernel
theorem dX5_expression_28 : decode cX5_expression 28 = .ok (.bipush 61, 2) := by decide +kernel
theorem dX5_expression_30 : decode cX5_expression 30 = .ok (.if_icmp .eq 17, 3) := by decide +kernel
theorem dX5_expression_47 : decode cX5_expression 47 = .ok (.aload_n 0, 1) := by decide +kernel
theorem dX5_expression_48 : decode cX5_expression 48 = .ok (.getfield 12, 3) := by decide +kernel
theorem dX5_expression_51 : decode cX5_expression 51 = .ok (.getfield 71, 3) := by decide +kernel
theorem dX5_expression_54 : decode cX5_expression 54 = .ok (.bipush 61, 2) := by decide +kernel
theorem dX5_expression_56 : decode cX5_expression 56 = .ok (.if_icmp .ne 7, 3) := by decide +kernel
theorem dX5_expression_59 : decode cX5_expression 59 = .ok (.iconst 4, 1) := by decide +kernel
theorem dX5_expression_60 : decode cX5_expression 60 = .ok (.goto 4, 3) := by decide +kernel
theorem dX5_expression_64 : decode cX5_expression 64 = .ok (.istore_n 2, 1) := by decide +kernel
theorem dX5_expression_65 : decode cX5_expression 65 = .ok (.aload_n 0, 1) := by decide +kernel
theorem dX5_expression_66 : decode cX5_expression 66 = .ok (.getfield 216, 3) := by decide +kernel
theorem dX5_expression_69 : decode cX5_expression 69 = .ok (.istore_n 3, 1) := by decide +kernel
theorem dX5_expression_70 : decode cX5_expression 70 = .ok (.aload_n 0, 1) := by decide +kernel
theorem dX5_expression_71 : decode cX5_expression 71 = .ok (.getfield 219, 3) := by decide +kernel
theorem dX5_expression_74 : decode cX5_expression 74 = .ok (.istore 4, 2) := by decide +kernel
theorem dX5_expression_76 : decode cX5_expression 76 = .ok (.aload_n 0, 1) := by decide +kernel
theorem dX5_expression_77 : decode cX5_expression 77 = .ok (.getfield 12, 3) := by decide +kernel
theorem dX5_expression_80 : decode cX5_expression 80 = .ok (.invokevirtual 93, 3) := by decide +kernel
theorem dX5_expression_83 : decode cX5_expression 83 = .ok (.aload_n 0, 1) := by decide +kernel
theorem dX5_expression_84 : decode cX5_expression 84 = .ok (.iload_n 1, 1) := by decide +kernel
theorem dX5_expression_85 : decode cX5_expression 85 = .ok (.invokevirtual 241, 3) := by decide +kernel
theorem dX5_expression_88 : decode cX5_expression 88 = .ok (.ifCond .ne 5, 3) := by decide +kernel
theorem dX5_expression_93 : decode cX5_expression 93 = .ok (.aload_n 0, 1) := by decide +kernel
theorem dX5_expression_94 : decode cX5_expression 94 = .ok (.iload_n 2, 1) := by decide +kernel
theorem dX5_expression_95 : decode cX5_expression 95 = .ok (.iload_n 3, 1) := by decide +kernel
theorem dX5_expression_96 : decode cX5_expression 96 = .ok (.iload 4, 2) := by decide +kernel
theorem dX5_expression_98 : decode cX5_expression 98 = .ok (.invokevirtual 244, 3) := by decide +kernel
theorem dX5_expression_101 : decode cX5_expression 101 = .ok (.iconst 1, 1) := by decide +kernel
theorem dX5_expression_102 : decode cX5_expression 102 = .ok (.ireturn, 1) := by decide +kernel
theorem dX5_expression_91 : decode cX5_expression 91 = .ok (.iconst 0, 1) := by decide +kernel
theorem dX5_expression_92 : decode cX5_expression 92 = .ok (.ireturn, 1) := by decide +kernel
theorem dX5_expression_33 : decode cX5_expression 33 = .ok (.aload_n 0, 1) := by decide +kernel
theorem dX5_expression_34 : decode cX5_expression 34 = .ok (.getfield 12, 3) := by decide +kernel
theorem dX5_expression_37 : decode cX5_expression 37 = .ok (.getfield 71, 3) := by decide +kernel
theorem dX5_expression_40 : decode cX5_expression 40 = .ok (.bipush 60, 2) := by decide +kernel
theorem dX5_expression_42 : decode cX5_expression 42 = .ok (.if_icmp .eq 5, 3) := by decide +kernel
theorem dX5_expression_63 : decode cX5_expression 63 = .ok (.iconst 5, 1) := by decide +kernel
theorem dX5_expression_45 : decode cX5_expression 45 = .ok (.iconst 1, 1) := by decide +kernel
theorem dX5_expression_46 : decode cX5_expression 46 = .ok (.ireturn, 1) := by decide +kernel
theorem dX5_expression_19 : decode cX5_expression 19 = .ok (.iconst 0, 1) := by decide +kernel
theorem dX5_expression_20 : decode cX5_expression 20 = .ok (.ireturn, 1) := by decide +kernel
set_option maxRecDepth 20000 in
theorem k_X5_expression_1 (d : Nat) {T : CT} {σ : MS} {a : Nat} {dp : Int} {kp : Int} {lv : Nat} (ha : OB T a 5) (h_dp : -2147483648 ≤ dp ∧ dp ≤ 2147483647) (hw : WT T σ) (hex : ∀ (d : Nat) {T : CT} {σ : MS} {a : Nat} {dp : Int} {kp : Int} (ha : OB T a 5) (h_dp : -2147483648 ≤ dp ∧ dp ≤ 2147483647) (hw : WT T σ) (hdp : 0 ≤ dp ∧ dp ≤ 9) (hlv : 9 ≤ dp + (lv : Int)) (hkp : kp ≤ 150) (hrp : RP σ a kp), Tn (d + 5 * lv + 10) m_X5_expression 0 T σ [(0, .ref a), (1, .int (iI dp))] [] (fun ro T2 σ2 => ∃ v : Int, ro = some (.int (iI v)) ∧ WT T2 σ2 ∧ FrC T [5, 6, 7, 43, 44, 47, 50, 51, 84, 85, 86, 87, 521] σ σ2 ∧ (v = 0 ∨ v = 1) ∧ (RP σ2 a (kp - 4 * v)))) (hdp : 0 ≤ dp ∧ dp ≤ 9) (hlv : 9 ≤ dp + ((lv : Int) + 1)) (hkp : kp ≤ 150) (hrp : RP σ a kp) : Tn (d + 5 * lv + 15) m_X5_expression 0 T σ [(0, .ref a), (1, .int (iI dp))] [] (fun ro T2 σ2 => ∃ v : Int, ro = some (.int (iI v)) ∧ WT T2 σ2 ∧ FrC T [5, 6, 7, 43, 44, 47, 50, 51, 84, 85, 86, 87, 521] σ σ2 ∧ (v = 0 ∨ v = 1) ∧ (RP σ2 a (kp - 4 * v))) := by
  refine tn_iload_n dX5_expression_0 rfl 1 rfl ?_
  refine tn_bipush dX5_expression_1 (by decide) ?_
  refine tn_icmp_le (tgt := 11) dX5_expression_3 (by decide) ⟨by omega, by omega⟩ ⟨by decide, by decide⟩ (fun h1 => ?_) (fun h1 => ?_)
  · refine tn_aload_n dX5_expression_11 rfl 0 rfl ?_
    refine tn_iload_n dX5_expression_12 rfl 1 rfl ?_
    refine tn_callV (M := m_X5_expression) (pc := 13) (ix := 241) (ci := 5) (M' := m_X5_sum) (As := [.int (iI dp)]) (rest := []) dX5_expression_13 ok_X5_sum im_X5_sum se_X5_sum ml5_241 np_X5_sum rfl rfl ha rfl (Nat.le_of_ble_eq_true rfl) (Nat.le_of_ble_eq_true rfl) rfl (k_X5_sum (d) (T := T) (σ := σ) (a := a) (dp := dp) (kp := kp) (lv := lv) ha (by omega) hw hex (by omega) (by omega) (by omega) hrp) (fun r2 T4 σ3 gt5 hp => ?_)
    obtain ⟨v8, rfl, w9, F10, f6, f7⟩ := hp
    replace ha : OB T4 a 5 := gt5.ob ha
    show Tn _ _ 16 T4 σ3 [(0, .ref a), (1, .int (iI dp))] [.int (iI v8)] _
    refine tn_if_ne (tgt := 21) dX5_expression_16 (by decide) ⟨by omega, by omega⟩ (fun h12 => ?_) (fun h12 => ?_)
    · refine tn_aload_n dX5_expression_21 rfl 0 rfl ?_
      obtain ⟨x13, hx14, hk15⟩ : ∃ x : Nat, σ3.2.1 33 a = (x : Int) ∧ (T4 x).1 = 39 := wf_33 w9 ha
      have hk15o : OB T4 x13 9 := ⟨by omega, by rw [hk15]; rfl, by omega⟩
      refine tn_getR (ci := 5) (i := 0) (n := 33) (x := x13) dX5_expression_22 rfl lay_5 (by decide) fl5_12 ha rfl rfl (hx14) ?_
      refine tn_getI (ci := 9) (i := 4) (n := 85) (t := σ3.2.1 85 x13) dX5_expression_25 rfl lay_9 (by decide) fl5_71 hk15o rfl rfl (rfl) ?_
      have g17 : ((-2147483648 : Int) ≤ σ3.2.1 85 x13 ∧ σ3.2.1 85 x13 ≤ 2147483647) := wf_85 w9 hk15o
      refine tn_bipush dX5_expression_28 (by decide) ?_
      refine tn_icmp_eq (tgt := 47) dX5_expression_30 (by decide) ⟨by omega, by omega⟩ ⟨by decide, by decide⟩ (fun h18 => ?_) (fun h18 => ?_)
      · refine tn_aload_n dX5_expression_47 rfl 0 rfl ?_
        refine tn_getR (ci := 5) (i := 0) (n := 33) (x := x13) dX5_expression_48 rfl lay_5 (by decide) fl5_12 ha rfl rfl (hx14) ?_
        refine tn_getI (ci := 9) (i := 4) (n := 85) (t := σ3.2.1 85 x13) dX5_expression_51 rfl lay_9 (by decide) fl5_71 hk15o rfl rfl (rfl) ?_
        refine tn_bipush dX5_expression_54 (by decide) ?_
        refine tn_icmp_ne (tgt := 63) dX5_expression_56 (by decide) ⟨by omega, by omega⟩ ⟨by decide, by decide⟩ (fun h19 => absurd h19 (by omega)) (fun h19 => ?_)
        refine tn_iconst dX5_expression_59 ?_
        refine tn_goto (tgt := 64) dX5_expression_60 (by decide) ?_
        refine tn_istore_n (L' := [(2, .int (iI 4)), (0, .ref a), (1, .int (iI dp))]) dX5_expression_64 rfl (by decide) rfl ?_
        refine tn_aload_n dX5_expression_65 rfl 1 rfl ?_
        refine tn_getI (ci := 5) (i := 17) (n := 50) (t := σ3.2.1 50 a) dX5_expression_66 rfl lay_5 (by decide) fl5_216 ha rfl rfl (rfl) ?_
        have g20 : ((-2147483648 : Int) ≤ σ3.2.1 50 a ∧ σ3.2.1 50 a ≤ 2147483647) := wf_50 w9 ha
        refine tn_istore_n (L' := [(3, .int (iI (σ3.2.1 50 a))), (2, .int (iI 4)), (0, .ref a), (1, .int (iI dp))]) dX5_expression_69 rfl (by decide) rfl ?_
        refine tn_aload_n dX5_expression_70 rfl 2 rfl ?_
        refine tn_getI (ci := 5) (i := 18) (n := 51) (t := σ3.2.1 51 a) dX5_expression_71 rfl lay_5 (by decide) fl5_219 ha rfl rfl (rfl) ?_
        have g21 : ((-2147483648 : Int) ≤ σ3.2.1 51 a ∧ σ3.2.1 51 a ≤ 2147483647) := wf_51 w9 ha
        refine tn_istore (L' := [(4, .int (iI (σ3.2.1 51 a))), (3, .int (iI (σ3.2.1 50 a))), (2, .int (iI 4)), (0, .ref a), (1, .int (iI dp))]) dX5_expression_74 (by decide) rfl ?_
        refine tn_aload_n dX5_expression_76 rfl 3 rfl ?_
        refine tn_getR (ci := 5) (i := 0) (n := 33) (x := x13) dX5_expression_77 rfl lay_5 (by decide) fl5_12 ha rfl rfl (hx14) ?_
        refine tn_callV (M := m_X5_expression) (pc := 80) (ix := 93) (ci := 9) (M' := m_X9_next) (As := []) (rest := []) dX5_expression_80 ok_X9_next im_X9_next se_X9_next ml5_93 np_X9_next rfl rfl hk15o rfl (Nat.le_of_ble_eq_true rfl) (Nat.le_of_ble_eq_true rfl) rfl (k_X9_next (d + 5 * lv + 13) (T := T4) (σ := σ3) (a := x13) hk15o w9 (RP.tk f7 w9 ha (hx14))) (fun r22 T24 σ23 gt25 hp => ?_)
        obtain ⟨rfl, rfl, w30, F31, f26, f27, f28⟩ := hp
        clear gt25
        have rp32 : RP σ23 a (kp - 4 * v8 - 4) := RP.next4 f7 (hx14) F31 (by decide) (by decide) (by decide) f26 f28 (by rw [show σ3.2.1 85 x13 = σ3.2.1 85 x13 from rfl]; omega)
        show Tn _ _ 83 T4 σ23 [(4, .int (iI (σ3.2.1 51 a))), (3, .int (iI (σ3.2.1 50 a))), (2, .int (iI 4)), (0, .ref a), (1, .int (iI dp))] [] _
        refine tn_aload_n dX5_expression_83 rfl 3 rfl ?_
        refine tn_iload_n dX5_expression_84 rfl 4 rfl ?_
        refine tn_callV (M := m_X5_expression) (pc := 85) (ix := 241) (ci := 5) (M' := m_X5_sum) (As := [.int (iI dp)]) (rest := []) dX5_expression_85 ok_X5_sum im_X5_sum se_X5_sum ml5_241 np_X5_sum rfl rfl ha rfl (Nat.le_of_ble_eq_true rfl) (Nat.le_of_ble_eq_true rfl) rfl (k_X5_sum (d) (T := T4) (σ := σ23) (a := a) (dp := dp) (kp := kp - 4 * v8 - 4) (lv := lv) ha (by omega) w30 hex (by omega) (by omega) (by omega) rp32) (fun r33 T35 σ34 gt36 hp => ?_)
        obtain ⟨v39, rfl, w40, F41, f37, f38⟩ := hp
        replace ha : OB T35 a 5 := gt36.ob ha
        have rp43 : RP σ34 a (kp - 4 * v8 - 4 * v39 - 4) := RP.up f38 (by omega)
        show Tn _ _ 88 T35 σ34 [(4, .int (iI (σ3.2.1 51 a))), (3, .int (iI (σ3.2.1 50 a))), (2, .int (iI 4)), (0, .ref a), (1, .int (iI dp))] [.int (iI v39)] _
        refine tn_if_ne (tgt := 93) dX5_expression_88 (by decide) ⟨by omega, by omega⟩ (fun h44 => ?_) (fun h44 => ?_)
        · refine tn_aload_n dX5_expression_93 rfl 3 rfl ?_
          refine tn_iload_n dX5_expression_94 rfl 2 rfl ?_
          refine tn_iload_n dX5_expression_95 rfl 1 rfl ?_
          refine tn_iload dX5_expression_96 0 rfl ?_
          refine tn_callV (M := m_X5_expression) (pc := 98) (ix := 244) (ci := 5) (M' := m_X5_join) (As := [.int (iI 4), .int (iI (σ3.2.1 50 a)), .int (iI (σ3.2.1 51 a))]) (rest := []) dX5_expression_98 ok_X5_join im_X5_join se_X5_join ml5_244 np_X5_join rfl rfl ha rfl (Nat.le_of_ble_eq_true rfl) (Nat.le_of_ble_eq_true rfl) rfl (k_X5_join (d + 5 * lv + 10) (T := T35) (σ := σ34) (a := a) (k := 4) (e := σ3.2.1 50 a) (l := σ3.2.1 51 a) (kp := kp - 4 * v8 - 4 * v39 - 4) ha (by decide) (by omega) (by omega) w40 (by omega) (by omega) rp43) (fun r45 T47 σ46 gt48 hp => ?_)
          obtain ⟨rfl, w51, F52, f49⟩ := hp
          replace ha : OB T47 a 5 := gt48.ob ha
          have rp54 : RP σ46 a (kp - 4 * v8 - 4 * v39 - 3) := RP.up f49 (by omega)
          show Tn _ _ 101 T47 σ46 [(4, .int (iI (σ3.2.1 51 a))), (3, .int (iI (σ3.2.1 50 a))), (2, .int (iI 4)), (0, .ref a), (1, .int (iI dp))] [] _
          refine tn_iconst dX5_expression_101 ?_
          exact tn_zret (v := 1) rfl (by decide) dX5_expression_102 ⟨_, rfl, w51, ((((FrC.rfl.trans (FrC.sub F10 (by decide))).trans (FrC.sub (FrC.old F31 gt5) (by decide))).trans (FrC.sub (FrC.old F41 gt5) (by decide))).trans (FrC.sub (FrC.old F52 (GT.trans gt5 gt36)) (by decide))), by omega, (RP.up rp54 (by omega))⟩
        · refine tn_iconst dX5_expression_91 ?_
          exact tn_zret (v := 0) rfl (by decide) dX5_expression_92 ⟨_, rfl, w40, (((FrC.rfl.trans (FrC.sub F10 (by decide))).trans (FrC.sub (FrC.old F31 gt5) (by decide))).trans (FrC.sub (FrC.old F41 gt5) (by decide))), by omega, (RP.up rp43 (by omega))⟩
      · refine tn_aload_n dX5_expression_33 rfl 0 rfl ?_
        refine tn_getR (ci := 5) (i := 0) (n := 33) (x := x13) dX5_expression_34 rfl lay_5 (by decide) fl5_12 ha rfl rfl (hx14) ?_
        refine tn_getI (ci := 9) (i := 4) (n := 85) (t := σ3.2.1 85 x13) dX5_expression_37 rfl lay_9 (by decide) fl5_71 hk15o rfl rfl (rfl) ?_
        refine tn_bipush dX5_expression_40 (by decide) ?_
        refine tn_icmp_eq (tgt := 47) dX5_expression_42 (by decide) ⟨by omega, by omega⟩ ⟨by decide, by decide⟩ (fun h55 => ?_) (fun h55 => ?_)
        · refine tn_aload_n dX5_expression_47 rfl 0 rfl ?_
          refine tn_getR (ci := 5) (i := 0) (n := 33) (x := x13) dX5_expression_48 rfl lay_5 (by decide) fl5_12 ha rfl rfl (hx14) ?_
          refine tn_getI (ci := 9) (i := 4) (n := 85) (t := σ3.2.1 85 x13) dX5_expression_51 rfl lay_9 (by decide) fl5_71 hk15o rfl rfl (rfl) ?_
          refine tn_bipush dX5_expression_54 (by decide) ?_
          refine tn_icmp_ne (tgt := 63) dX5_expression_56 (by decide) ⟨by omega, by omega⟩ ⟨by decide, by decide⟩ (fun h56 => ?_) (fun h56 => absurd h56 (by omega))
          refine tn_iconst dX5_expression_63 ?_
          refine tn_istore_n (L' := [(2, .int (iI 5)), (0, .ref a), (1, .int (iI dp))]) dX5_expression_64 rfl (by decide) rfl ?_
          refine tn_aload_n dX5_expression_65 rfl 1 rfl ?_
          refine tn_getI (ci := 5) (i := 17) (n := 50) (t := σ3.2.1 50 a) dX5_expression_66 rfl lay_5 (by decide) fl5_216 ha rfl rfl (rfl) ?_
          have g57 : ((-2147483648 : Int) ≤ σ3.2.1 50 a ∧ σ3.2.1 50 a ≤ 2147483647) := wf_50 w9 ha
          refine tn_istore_n (L' := [(3, .int (iI (σ3.2.1 50 a))), (2, .int (iI 5)), (0, .ref a), (1, .int (iI dp))]) dX5_expression_69 rfl (by decide) rfl ?_
          refine tn_aload_n dX5_expression_70 rfl 2 rfl ?_
          refine tn_getI (ci := 5) (i := 18) (n := 51) (t := σ3.2.1 51 a) dX5_expression_71 rfl lay_5 (by decide) fl5_219 ha rfl rfl (rfl) ?_
          have g58 : ((-2147483648 : Int) ≤ σ3.2.1 51 a ∧ σ3.2.1 51 a ≤ 2147483647) := wf_51 w9 ha
          refine tn_istore (L' := [(4, .int (iI (σ3.2.1 51 a))), (3, .int (iI (σ3.2.1 50 a))), (2, .int (iI 5)), (0, .ref a), (1, .int (iI dp))]) dX5_expression_74 (by decide) rfl ?_
          refine tn_aload_n dX5_expression_76 rfl 3 rfl ?_
          refine tn_getR (ci := 5) (i := 0) (n := 33) (x := x13) dX5_expression_77 rfl lay_5 (by decide) fl5_12 ha rfl rfl (hx14) ?_
          refine tn_callV (M := m_X5_expression) (pc := 80) (ix := 93) (ci := 9) (M' := m_X9_next) (As := []) (rest := []) dX5_expression_80 ok_X9_next im_X9_next se_X9_next ml5_93 np_X9_next rfl rfl hk15o rfl (Nat.le_of_ble_eq_true rfl) (Nat.le_of_ble_eq_true rfl) rfl (k_X9_next (d + 5 * lv + 13) (T := T4) (σ := σ3) (a := x13) hk15o w9 (RP.tk f7 w9 ha (hx14))) (fun r59 T61 σ60 gt62 hp => ?_)
          obtain ⟨rfl, rfl, w67, F68, f63, f64, f65⟩ := hp
          clear gt62
          have rp69 : RP σ60 a (kp - 4 * v8 - 4) := RP.next4 f7 (hx14) F68 (by decide) (by decide) (by decide) f63 f65 (by rw [show σ3.2.1 85 x13 = σ3.2.1 85 x13 from rfl]; omega)
          show Tn _ _ 83 T4 σ60 [(4, .int (iI (σ3.2.1 51 a))), (3, .int (iI (σ3.2.1 50 a))), (2, .int (iI 5)), (0, .ref a), (1, .int (iI dp))] [] _
          refine tn_aload_n dX5_expression_83 rfl 3 rfl ?_
          refine tn_iload_n dX5_expression_84 rfl 4 rfl ?_
          refine tn_callV (M := m_X5_expression) (pc := 85) (ix := 241) (ci := 5) (M' := m_X5_sum) (As := [.int (iI dp)]) (rest := []) dX5_expression_85 ok_X5_sum im_X5_sum se_X5_sum ml5_241 np_X5_sum rfl rfl ha rfl (Nat.le_of_ble_eq_true rfl) (Nat.le_of_ble_eq_true rfl) rfl (k_X5_sum (d) (T := T4) (σ := σ60) (a := a) (dp := dp) (kp := kp - 4 * v8 - 4) (lv := lv) ha (by omega) w67 hex (by omega) (by omega) (by omega) rp69) (fun r70 T72 σ71 gt73 hp => ?_)
          obtain ⟨v76, rfl, w77, F78, f74, f75⟩ := hp
          replace ha : OB T72 a 5 := gt73.ob ha
          have rp80 : RP σ71 a (kp - 4 * v8 - 4 * v76 - 4) := RP.up f75 (by omega)
          show Tn _ _ 88 T72 σ71 [(4, .int (iI (σ3.2.1 51 a))), (3, .int (iI (σ3.2.1 50 a))), (2, .int (iI 5)), (0, .ref a), (1, .int (iI dp))] [.int (iI v76)] _
          refine tn_if_ne (tgt := 93) dX5_expression_88 (by decide) ⟨by omega, by omega⟩ (fun h81 => ?_) (fun h81 => ?_)
          · refine tn_aload_n dX5_expression_93 rfl 3 rfl ?_
            refine tn_iload_n dX5_expression_94 rfl 2 rfl ?_
            refine tn_iload_n dX5_expression_95 rfl 1 rfl ?_
            refine tn_iload dX5_expression_96 0 rfl ?_
            refine tn_callV (M := m_X5_expression) (pc := 98) (ix := 244) (ci := 5) (M' := m_X5_join) (As := [.int (iI 5), .int (iI (σ3.2.1 50 a)), .int (iI (σ3.2.1 51 a))]) (rest := []) dX5_expression_98 ok_X5_join im_X5_join se_X5_join ml5_244 np_X5_join rfl rfl ha rfl (Nat.le_of_ble_eq_true rfl) (Nat.le_of_ble_eq_true rfl) rfl (k_X5_join (d + 5 * lv + 10) (T := T72) (σ := σ71) (a := a) (k := 5) (e := σ3.2.1 50 a) (l := σ3.2.1 51 a) (kp := kp - 4 * v8 - 4 * v76 - 4) ha (by decide) (by omega) (by omega) w77 (by omega) (by omega) rp80) (fun r82 T84 σ83 gt85 hp => ?_)
            obtain ⟨rfl, w88, F89, f86⟩ := hp
            replace ha : OB T84 a 5 := gt85.ob ha
            have rp91 : RP σ83 a (kp - 4 * v8 - 4 * v76 - 3) := RP.up f86 (by omega)
            show Tn _ _ 101 T84 σ83 [(4, .int (iI (σ3.2.1 51 a))), (3, .int (iI (σ3.2.1 50 a))), (2, .int (iI 5)), (0, .ref a), (1, .int (iI dp))] [] _
            refine tn_iconst dX5_expression_101 ?_
            exact tn_zret (v := 1) rfl (by decide) dX5_expression_102 ⟨_, rfl, w88, ((((FrC.rfl.trans (FrC.sub F10 (by decide))).trans (FrC.sub (FrC.old F68 gt5) (by decide))).trans (FrC.sub (FrC.old F78 gt5) (by decide))).trans (FrC.sub (FrC.old F89 (GT.trans gt5 gt73)) (by decide))), by omega, (RP.up rp91 (by omega))⟩
          · refine tn_iconst dX5_expression_91 ?_
            exact tn_zret (v := 0) rfl (by decide) dX5_expression_92 ⟨_, rfl, w77, (((FrC.rfl.trans (FrC.sub F10 (by decide))).trans (FrC.sub (FrC.old F68 gt5) (by decide))).trans (FrC.sub (FrC.old F78 gt5) (by decide))), by omega, (RP.up rp80 (by omega))⟩
        · refine tn_iconst dX5_expression_45 ?_
          exact tn_zret (v := 1) rfl (by decide) dX5_expression_46 ⟨_, rfl, w9, (FrC.rfl.trans (FrC.sub F10 (by decide))), by omega, (RP.up f7 (by omega))⟩
    · refine tn_iconst dX5_expression_19 ?_
      exact tn_zret (v := 0) rfl (by decide) dX5_expression_20 ⟨_, rfl, w9, (FrC.rfl.trans (FrC.sub F10 (by decide))), by omega, (RP.up f7 (by omega))⟩
  · refine tn_aload_n dX5_expression_6 rfl 0 rfl ?_
    refine tn_callV (M := m_X5_expression) (pc := 7) (ix := 90) (ci := 5) (M' := m_X5_refuse) (As := []) (rest := []) dX5_expression_7 ok_X5_refuse im_X5_refuse se_X5_refuse ml5_90 np_X5_refuse rfl rfl ha rfl (Nat.le_of_ble_eq_true rfl) (Nat.le_of_ble_eq_true rfl) rfl (k_X5_refuse (d + 5 * lv + 13) (T := T) (σ := σ) (a := a) ha hw ) (fun r92 T94 σ93 gt95 hp => ?_)
    obtain ⟨v98, rfl, rfl, w99, F100, f96, f97⟩ := hp
    clear gt95
    have rp101 : RP σ93 a (kp) := RP.frc hrp F100 (by decide) (by decide) (by decide) (by decide) (by decide)
    show Tn _ _ 10 T σ93 [(0, .ref a), (1, .int (iI dp))] [.int (iI v98)] _
    exact tn_zret (v := v98) rfl (by omega) dX5_expression_10 ⟨_, rfl, w99, (FrC.rfl.trans (FrC.sub F100 (by decide))), by omega, (RP.up rp101 (by omega))⟩
end
section
theorem lv_X5_expression : ∀ (lv : Nat), ∀ (d : Nat) {T : CT} {σ : MS} {a : Nat} {dp : Int} {kp : Int} (ha : OB T a 5) (h_dp : -2147483648 ≤ dp ∧ dp ≤ 2147483647) (hw : WT T σ) (hdp : 0 ≤ dp ∧ dp ≤ 9) (hlv : 9 ≤ dp + (lv : Int)) (hkp : kp ≤ 150) (hrp : RP σ a kp), Tn (d + 5 * lv + 10) m_X5_expression 0 T σ [(0, .ref a), (1, .int (iI dp))] [] (fun ro T2 σ2 => ∃ v : Int, ro = some (.int (iI v)) ∧ WT T2 σ2 ∧ FrC T [5, 6, 7, 43, 44, 47, 50, 51, 84, 85, 86, 87, 521] σ σ2 ∧ (v = 0 ∨ v = 1) ∧ (RP σ2 a (kp - 4 * v))) := by
  intro lv
  induction lv with
  | zero =>
    intro d T σ a dp kp ha h_dp hw hdp hlv hkp hrp
    exact k_X5_expression_0 d ha h_dp hw (by omega) hkp hrp
  | succ lv ih =>
    intro d T σ a dp kp ha h_dp hw hdp hlv hkp hrp
    have e : d + 5 * (lv + 1) + 10 = d + 5 * lv + 15 := by omega
    rw [e]
    exact k_X5_expression_1 d (lv := lv) ha h_dp hw ih hdp (by omega) hkp hrp
theorem k_X5_expression : ∀ (d : Nat) {T : CT} {σ : MS} {a : Nat} {dp : Int} {kp : Int} (ha : OB T a 5) (h_dp : -2147483648 ≤ dp ∧ dp ≤ 2147483647) (hw : WT T σ) (hdp : 1 ≤ dp ∧ dp ≤ 9) (hkp : kp ≤ 150) (hrp : RP σ a kp), Tn (d + 50) m_X5_expression 0 T σ [(0, .ref a), (1, .int (iI dp))] [] (fun ro T2 σ2 => ∃ v : Int, ro = some (.int (iI v)) ∧ WT T2 σ2 ∧ FrC T [5, 6, 7, 43, 44, 47, 50, 51, 84, 85, 86, 87, 521] σ σ2 ∧ (v = 0 ∨ v = 1) ∧ (RP σ2 a (kp - 4 * v))) := by
  intro d T σ a dp kp ha h_dp hw hdp hkp hrp
  have e : d + 50 = d + 5 * 8 + 10 := by omega
  rw [e]
  exact lv_X5_expression 8 d ha h_dp hw (by omega) (by omega) hkp hrp
end
section
theorem cd_X5_setting : Cond.code yX5_setting cX5_setting 2 (some .boolean) ∈ pWW := pw3 (List.mem_of_getElem? (i := 197) rfl) rfl
abbrev m_X5_setting : MT := (yX5_setting, cX5_setting, 2, (some .boolean))
theorem ok_X5_setting : pOk m_X5_setting := ⟨⟨cd_X5_setting, ini_5⟩, by decide +kernel, ⟨by decide +kernel, by decide +kernel⟩, Nat.le_of_ble_eq_true rfl⟩
theorem np_X5_setting : (parseMethodDescriptor yX5_setting.desc).map (fun d => d.parameters.length) = some 1 := by decide +kernel
theorem im_X5_setting : Cond.instanceMethod yX5_setting ∈ pWW := pw3 (List.mem_of_getElem? (i := 196) rfl) rfl
theorem se_X5_setting : Cond.selects RX5 yX5_setting yX5_setting ∈ pWW := pws (List.mem_map.mpr ⟨_, lw_pin 25 rfl, rfl⟩) rfl
theorem dX5_setting_0 : decode cX5_setting 0 = .ok (.aload_n 0, 1) := by decide +kernel
theorem dX5_setting_1 : decode cX5_setting 1 = .ok (.iconst 1, 1) := by decide +kernel
theorem dX5_setting_2 : decode cX5_setting 2 = .ok (.invokevirtual 213, 3) := by decide +kernel
theorem dX5_setting_5 : decode cX5_setting 5 = .ok (.ifCond .eq 12, 3) := by decide +kernel
theorem dX5_setting_17 : decode cX5_setting 17 = .ok (.iconst 0, 1) := by decide +kernel
theorem dX5_setting_18 : decode cX5_setting 18 = .ok (.ireturn, 1) := by decide +kernel
theorem dX5_setting_8 : decode cX5_setting 8 = .ok (.aload_n 0, 1) := by decide +kernel
theorem dX5_setting_9 : decode cX5_setting 9 = .ok (.bipush 59, 2) := by decide +kernel
theorem dX5_setting_11 : decode cX5_setting 11 = .ok (.invokevirtual 102, 3) := by decide +kernel
theorem dX5_setting_14 : decode cX5_setting 14 = .ok (.ifCond .ne 5, 3) := by decide +kernel
theorem dX5_setting_19 : decode cX5_setting 19 = .ok (.aload_n 0, 1) := by decide +kernel
theorem dX5_setting_20 : decode cX5_setting 20 = .ok (.getfield 47, 3) := by decide +kernel
theorem dX5_setting_23 : decode cX5_setting 23 = .ok (.iconst 0, 1) := by decide +kernel
theorem dX5_setting_24 : decode cX5_setting 24 = .ok (.iload_n 1, 1) := by decide +kernel
theorem dX5_setting_25 : decode cX5_setting 25 = .ok (.iconst 0, 1) := by decide +kernel
theorem dX5_setting_26 : decode cX5_setting 26 = .ok (.invokevirtual 139, 3) := by decide +kernel
theorem dX5_setting_29 : decode cX5_setting 29 = .ok (.aload_n 0, 1) := by decide +kernel
theorem dX5_setting_30 : decode cX5_setting 30 = .ok (.getfield 47, 3) := by decide +kernel
theorem dX5_setting_33 : decode cX5_setting 33 = .ok (.iconst 0, 1) := by decide +kernel
theorem dX5_setting_34 : decode cX5_setting 34 = .ok (.aload_n 0, 1) := by decide +kernel
theorem dX5_setting_35 : decode cX5_setting 35 = .ok (.getfield 216, 3) := by decide +kernel
theorem dX5_setting_38 : decode cX5_setting 38 = .ok (.aload_n 0, 1) := by decide +kernel
theorem dX5_setting_39 : decode cX5_setting 39 = .ok (.getfield 219, 3) := by decide +kernel
theorem dX5_setting_42 : decode cX5_setting 42 = .ok (.invokevirtual 143, 3) := by decide +kernel
theorem dX5_setting_45 : decode cX5_setting 45 = .ok (.iconst 1, 1) := by decide +kernel
theorem dX5_setting_46 : decode cX5_setting 46 = .ok (.ireturn, 1) := by decide +kernel
set_option maxRecDepth 20000 in
theorem k_X5_setting (d : Nat) {T : CT} {σ : MS} {a : Nat} {r : Int} {kp : Int} (ha : OB T a 5) (h_r : -2147483648 ≤ r ∧ r ≤ 2147483647) (hw : WT T σ) (hkp : kp ≤ 150) (hrp : RP σ a kp) : Tn (d + 51) m_X5_setting 0 T σ [(0, .ref a), (1, .int (iI r))] [] (fun ro T2 σ2 => ∃ v : Int, ro = some (.int (iI v)) ∧ WT T2 σ2 ∧ FrC T [5, 6, 7, 43, 44, 47, 50, 51, 84, 85, 86, 87, 521] σ σ2 ∧ (v = 0 ∨ v = 1) ∧ (RP σ2 a (kp - 7 * v))) := by
  refine tn_aload_n dX5_setting_0 rfl 0 rfl ?_
  refine tn_iconst dX5_setting_1 ?_
  refine tn_callV (M := m_X5_setting) (pc := 2) (ix := 213) (ci := 5) (M' := m_X5_expression) (As := [.int (iI 1)]) (rest := []) dX5_setting_2 ok_X5_expression im_X5_expression se_X5_expression ml5_213 np_X5_expression rfl rfl ha rfl (Nat.le_of_ble_eq_true rfl) (Nat.le_of_ble_eq_true rfl) rfl (k_X5_expression (d) (T := T) (σ := σ) (a := a) (dp := 1) (kp := kp) ha (by decide) hw (by omega) (by omega) hrp) (fun r1 T3 σ2 gt4 hp => ?_)
  obtain ⟨v7, rfl, w8, F9, f5, f6⟩ := hp
  replace ha : OB T3 a 5 := gt4.ob ha
  show Tn _ _ 5 T3 σ2 [(0, .ref a), (1, .int (iI r))] [.int (iI v7)] _
  refine tn_if_eq (tgt := 17) dX5_setting_5 (by decide) ⟨by omega, by omega⟩ (fun h11 => ?_) (fun h11 => ?_)
  · refine tn_iconst dX5_setting_17 ?_
    exact tn_zret (v := 0) rfl (by decide) dX5_setting_18 ⟨_, rfl, w8, (FrC.rfl.trans (FrC.sub F9 (by decide))), by omega, (RP.up f6 (by omega))⟩
  · refine tn_aload_n dX5_setting_8 rfl 0 rfl ?_
    refine tn_bipush dX5_setting_9 (by decide) ?_
    refine tn_callV (M := m_X5_setting) (pc := 11) (ix := 102) (ci := 5) (M' := m_X5_taken) (As := [.int (iI 59)]) (rest := []) dX5_setting_11 ok_X5_taken im_X5_taken se_X5_taken ml5_102 np_X5_taken rfl rfl ha rfl (Nat.le_of_ble_eq_true rfl) (Nat.le_of_ble_eq_true rfl) rfl (k_X5_taken (d + 48) (T := T3) (σ := σ2) (a := a) (s := 59) (kp := kp - 4 * v7) ha (by decide) w8 (by omega) (by omega) f6) (fun r12 T14 σ13 gt15 hp => ?_)
    obtain ⟨v18, rfl, rfl, w19, F20, f16, f17⟩ := hp
    clear gt15
    show Tn _ _ 14 T3 σ13 [(0, .ref a), (1, .int (iI r))] [.int (iI v18)] _
    refine tn_if_ne (tgt := 19) dX5_setting_14 (by decide) ⟨by omega, by omega⟩ (fun h22 => ?_) (fun h22 => ?_)
    · refine tn_aload_n dX5_setting_19 rfl 0 rfl ?_
      obtain ⟨x23, hx24, hk25⟩ : ∃ x : Nat, σ2.2.1 35 a = (x : Int) ∧ (T3 x).1 = 31 := wf_35 w8 ha
      have hk25o : OB T3 x23 1 := ⟨by omega, by rw [hk25]; rfl, by omega⟩
      refine tn_getR (ci := 5) (i := 2) (n := 35) (x := x23) dX5_setting_20 rfl lay_5 (by decide) fl5_47 ha rfl rfl (rc_F F20 (Or.inl (by decide)) (by decide) (hx24)) ?_
      refine tn_iconst dX5_setting_23 ?_
      refine tn_iload_n dX5_setting_24 rfl 1 rfl ?_
      refine tn_iconst dX5_setting_25 ?_
      have q31 : σ13.2.1 6 x23 = σ2.2.1 6 x23 := rc_F F20 (Or.inl (by decide)) (by decide) (rfl)
      refine tn_callV (M := m_X5_setting) (pc := 26) (ix := 139) (ci := 1) (M' := m_X1_append) (As := [.int (iI 0), .int (iI r), .int (iI 0)]) (rest := []) dX5_setting_26 ok_X1_append im_X1_append se_X1_append ml5_139 np_X1_append rfl rfl hk25o rfl (Nat.le_of_ble_eq_true rfl) (Nat.le_of_ble_eq_true rfl) rfl (k_X1_append (d + 47) (T := T3) (σ := σ13) (a := x23) (k := 0) (x := r) (y := 0) hk25o hk25 (by decide) (by omega) (by decide) w19 (RP.cnt f17 w19 ha (rc_F F20 (Or.inl (by decide)) (by decide) (hx24)) (by omega)) (by omega)) (fun r27 T29 σ28 gt30 hp => ?_)
      obtain ⟨rfl, w34, F35, f32⟩ := hp
      replace ha : OB T29 a 5 := gt30.ob ha
      have rp36 : RP σ28 a (kp - 4 * v7 - 4 * v18 + 1) := RP.app f17 (rc_F F20 (Or.inl (by decide)) (by decide) (hx24)) F35 (by decide) (by decide) (by decide) (by decide) f32
      show Tn _ _ 29 T29 σ28 [(0, .ref a), (1, .int (iI r))] [] _
      refine tn_aload_n dX5_setting_29 rfl 0 rfl ?_
      obtain ⟨x37, hx38, hk39⟩ : ∃ x : Nat, σ28.2.1 35 a = (x : Int) ∧ (T29 x).1 = 31 := wf_35 w34 ha
      have hk39o : OB T29 x37 1 := ⟨by omega, by rw [hk39]; rfl, by omega⟩
      refine tn_getR (ci := 5) (i := 2) (n := 35) (x := x37) dX5_setting_30 rfl lay_5 (by decide) fl5_47 ha rfl rfl (hx38) ?_
      refine tn_iconst dX5_setting_33 ?_
      refine tn_aload_n dX5_setting_34 rfl 0 rfl ?_
      refine tn_getI (ci := 5) (i := 17) (n := 50) (t := σ28.2.1 50 a) dX5_setting_35 rfl lay_5 (by decide) fl5_216 ha rfl rfl (rfl) ?_
      have g41 : ((-2147483648 : Int) ≤ σ28.2.1 50 a ∧ σ28.2.1 50 a ≤ 2147483647) := wf_50 w34 ha
      refine tn_aload_n dX5_setting_38 rfl 0 rfl ?_
      refine tn_getI (ci := 5) (i := 18) (n := 51) (t := σ28.2.1 51 a) dX5_setting_39 rfl lay_5 (by decide) fl5_219 ha rfl rfl (rfl) ?_
      have g42 : ((-2147483648 : Int) ≤ σ28.2.1 51 a ∧ σ28.2.1 51 a ≤ 2147483647) := wf_51 w34 ha
      refine tn_callV (M := m_X5_setting) (pc := 42) (ix := 143) (ci := 1) (M' := m_X1_lastOperand) (As := [.int (iI 0), .int (iI (σ28.2.1 50 a)), .int (iI (σ28.2.1 51 a))]) (rest := []) dX5_setting_42 ok_X1_lastOperand im_X1_lastOperand se_X1_lastOperand ml5_143 np_X1_lastOperand rfl rfl hk39o rfl (Nat.le_of_ble_eq_true rfl) (Nat.le_of_ble_eq_true rfl) rfl (k_X1_lastOperand (d + 49) (T := T29) (σ := σ28) (a := x37) (i := 0) (k := σ28.2.1 50 a) (y := σ28.2.1 51 a) hk39o (by decide) (by omega) (by omega) w34 ) (fun r43 T45 σ44 gt46 hp => ?_)
      obtain ⟨rfl, rfl, w48, F49⟩ := hp
      clear gt46
      have rp50 : RP σ44 a (kp - 4 * v7 - 4 * v18 + 1) := RP.frc rp36 F49 (by decide) (by decide) (by decide) (by decide) (by decide)
      show Tn _ _ 45 T29 σ44 [(0, .ref a), (1, .int (iI r))] [] _
      refine tn_iconst dX5_setting_45 ?_
      exact tn_zret (v := 1) rfl (by decide) dX5_setting_46 ⟨_, rfl, w48, ((((FrC.rfl.trans (FrC.sub F9 (by decide))).trans (FrC.sub (FrC.old F20 gt4) (by decide))).trans (FrC.sub (FrC.old F35 gt4) (by decide))).trans (FrC.sub (FrC.old F49 (GT.trans gt4 gt30)) (by decide))), by omega, (RP.up rp50 (by omega))⟩
    · refine tn_iconst dX5_setting_17 ?_
      exact tn_zret (v := 0) rfl (by decide) dX5_setting_18 ⟨_, rfl, w19, ((FrC.rfl.trans (FrC.sub F9 (by decide))).trans (FrC.sub (FrC.old F20 gt4) (by decide))), by omega, (RP.up f17 (by omega))⟩
end
section
theorem cd_X5_call : Cond.code yX5_call cX5_call 6 (some .boolean) ∈ pWW := pw3 (List.mem_of_getElem? (i := 158) rfl) rfl
abbrev m_X5_call : MT := (yX5_call, cX5_call, 6, (some .boolean))
theorem ok_X5_call : pOk m_X5_call := ⟨⟨cd_X5_call, ini_5⟩, by decide +kernel, ⟨by decide +kernel, by decide +kernel⟩, Nat.le_of_ble_eq_true rfl⟩
theorem np_X5_call : (parseMethodDescriptor yX5_call.desc).map (fun d => d.parameters.length) = some 1 := by decide +kernel
theorem im_X5_call : Cond.instanceMethod yX5_call ∈ pWW := pw3 (List.mem_of_getElem? (i := 157) rfl) rfl
theorem se_X5_call : Cond.selects RX5 yX5_call yX5_call ∈ pWW := pws (List.mem_map.mpr ⟨_, lw_pin 17 rfl, rfl⟩) rfl
theorem fl5_43 : Cond.fieldLink RX5 43 (TX5 16).1 (TX5 16).2.1 (TX5 16).2.2.1 ∈ pWW := pw1 (List.mem_of_getElem? (i := 172) rfl) rfl
theorem ml5_222 : Cond.methodLink RX5 222 yJ7_fill_53178 ∈ pWW := pw3 (List.mem_of_getElem? (i := 159) rfl) rfl
theorem dX5_call_0 : decode cX5_call 0 = .ok (.aload_n 0, 1) := by decide +kernel
theorem dX5_call_1 : decode cX5_call 1 = .ok (.getfield 12, 3) := by decide +kernel
theorem dX5_call_4 : decode cX5_call 4 = .ok (.getfield 96, 3) := by decide +kernel
theorem dX5_call_7 : decode cX5_call 7 = .ok (.istore_n 2, 1) := by decide +kernel
theorem dX5_call_8 : decode cX5_call 8 = .ok (.aload_n 0, 1) := by decide +kernel
theorem dX5_call_9 : decode cX5_call 9 = .ok (.getfield 12, 3) := by decide +kernel
theorem dX5_call_12 : decode cX5_call 12 = .ok (.getfield 74, 3) := by decide +kernel
theorem dX5_call_15 : decode cX5_call 15 = .ok (.istore_n 3, 1) := by decide +kernel
theorem dX5_call_16 : decode cX5_call 16 = .ok (.aload_n 0, 1) := by decide +kernel
theorem dX5_call_17 : decode cX5_call 17 = .ok (.getfield 12, 3) := by decide +kernel
theorem dX5_call_20 : decode cX5_call 20 = .ok (.invokevirtual 93, 3) := by decide +kernel
theorem dX5_call_23 : decode cX5_call 23 = .ok (.aload_n 0, 1) := by decide +kernel
theorem dX5_call_24 : decode cX5_call 24 = .ok (.getfield 12, 3) := by decide +kernel
theorem dX5_call_27 : decode cX5_call 27 = .ok (.invokevirtual 93, 3) := by decide +kernel
theorem dX5_call_30 : decode cX5_call 30 = .ok (.iconst 0, 1) := by decide +kernel
theorem dX5_call_31 : decode cX5_call 31 = .ok (.istore 4, 2) := by decide +kernel
theorem dX5_call_33 : decode cX5_call 33 = .ok (.aload_n 0, 1) := by decide +kernel
theorem dX5_call_34 : decode cX5_call 34 = .ok (.getfield 43, 3) := by decide +kernel
theorem dX5_call_37 : decode cX5_call 37 = .ok (.iconst 0, 1) := by decide +kernel
theorem dX5_call_38 : decode cX5_call 38 = .ok (.invokestatic 222, 3) := by decide +kernel
theorem dX5_call_41 : decode cX5_call 41 = .ok (.iconst 0, 1) := by decide +kernel
theorem dX5_call_42 : decode cX5_call 42 = .ok (.istore 5, 2) := by decide +kernel
theorem dX5_call_44 : decode cX5_call 44 = .ok (.iload 5, 2) := by decide +kernel
theorem dX5_call_46 : decode cX5_call 46 = .ok (.sipush 1200, 3) := by decide +kernel
theorem dX5_call_49 : decode cX5_call 49 = .ok (.if_icmp .ge 93, 3) := by decide +kernel
theorem dX5_call_52 : decode cX5_call 52 = .ok (.aload_n 0, 1) := by decide +kernel
theorem dX5_call_53 : decode cX5_call 53 = .ok (.getfield 12, 3) := by decide +kernel
theorem dX5_call_56 : decode cX5_call 56 = .ok (.getfield 71, 3) := by decide +kernel
theorem dX5_call_59 : decode cX5_call 59 = .ok (.bipush 41, 2) := by decide +kernel
theorem dX5_call_61 : decode cX5_call 61 = .ok (.if_icmp .ne 8, 3) := by decide +kernel
theorem dX5_call_69 : decode cX5_call 69 = .ok (.aload_n 0, 1) := by decide +kernel
theorem dX5_call_70 : decode cX5_call 70 = .ok (.iconst 1, 1) := by decide +kernel
theorem dX5_call_71 : decode cX5_call 71 = .ok (.invokevirtual 213, 3) := by decide +kernel
theorem dX5_call_74 : decode cX5_call 74 = .ok (.ifCond .ne 5, 3) := by decide +kernel
theorem dX5_call_79 : decode cX5_call 79 = .ok (.aload_n 0, 1) := by decide +kernel
theorem dX5_call_80 : decode cX5_call 80 = .ok (.getfield 43, 3) := by decide +kernel
theorem dX5_call_83 : decode cX5_call 83 = .ok (.iconst 2, 1) := by decide +kernel
theorem dX5_call_84 : decode cX5_call 84 = .ok (.iload 4, 2) := by decide +kernel
theorem dX5_call_86 : decode cX5_call 86 = .ok (.imul, 1) := by decide +kernel
theorem dX5_call_87 : decode cX5_call 87 = .ok (.aload_n 0, 1) := by decide +kernel
theorem dX5_call_88 : decode cX5_call 88 = .ok (.getfield 216, 3) := by decide +kernel
theorem dX5_call_91 : decode cX5_call 91 = .ok (.invokestatic 129, 3) := by decide +kernel
theorem dX5_call_94 : decode cX5_call 94 = .ok (.aload_n 0, 1) := by decide +kernel
theorem dX5_call_95 : decode cX5_call 95 = .ok (.getfield 43, 3) := by decide +kernel
theorem dX5_call_98 : decode cX5_call 98 = .ok (.iconst 2, 1) := by decide +kernel
theorem dX5_call_99 : decode cX5_call 99 = .ok (.iload 4, 2) := by decide +kernel
theorem dX5_call_101 : decode cX5_call 101 = .ok (.imul, 1) := by decide +kernel
theorem dX5_call_102 : decode cX5_call 102 = .ok (.iconst 1, 1) := by decide +kernel
theorem dX5_call_103 : decode cX5_call 103 = .ok (.iadd, 1) := by decide +kernel
theorem dX5_call_104 : decode cX5_call 104 = .ok (.aload_n 0, 1) := by decide +kernel
theorem dX5_call_105 : decode cX5_call 105 = .ok (.getfield 219, 3) := by decide +kernel
theorem dX5_call_108 : decode cX5_call 108 = .ok (.invokestatic 129, 3) := by decide +kernel
theorem dX5_call_111 : decode cX5_call 111 = .ok (.iinc 4 1, 3) := by decide +kernel
theorem dX5_call_114 : decode cX5_call 114 = .ok (.aload_n 0, 1) := by decide +kernel
theorem dX5_call_115 : decode cX5_call 115 = .ok (.getfield 12, 3) := by decide +kernel
theorem dX5_call_118 : decode cX5_call 118 = .ok (.getfield 71, 3) := by decide +kernel
theorem dX5_call_121 : decode cX5_call 121 = .ok (.bipush 44, 2) := by decide +kernel
theorem dX5_call_123 : decode cX5_call 123 = .ok (.if_icmp .eq 6, 3) := by decide +kernel
theorem dX5_call_129 : decode cX5_call 129 = .ok (.aload_n 0, 1) := by decide +kernel
theorem dX5_call_130 : decode cX5_call 130 = .ok (.getfield 12, 3) := by decide +kernel
theorem dX5_call_133 : decode cX5_call 133 = .ok (.invokevirtual 93, 3) := by decide +kernel
theorem dX5_call_136 : decode cX5_call 136 = .ok (.iinc 5 1, 3) := by decide +kernel
theorem dX5_call_139 : decode cX5_call 139 = .ok (.goto (-95), 3) := by decide +kernel
theorem dX5_call_64 : decode cX5_call 64 = .ok (.iload 4, 2) := by decide +kernel
theorem dX5_call_66 : decode cX5_call 66 = .ok (.ifCond .le 76, 3) := by decide +kernel
set_option maxRecDepth 20000 in
theorem l_X5_call_44 (d : Nat) {T0 : CT} {σ0 : MS} {a : Nat} {c1 : Int} {c2 : Int} {c3 : Int} {kp : Int} {post : Option Value → CT → MS → Prop} (r_c1 : -2147483648 ≤ c1 ∧ c1 ≤ 2147483647) (r_c2 : -2147483648 ≤ c2 ∧ c2 ≤ 2147483647) (r_c3 : -2147483648 ≤ c3 ∧ c3 ≤ 2147483647) (hw0 : WT T0 σ0) (hkp : kp ≤ 150) (hx_77 : ∀ (T : CT) (i4 : Int) (i5 : Int) (σ : MS) , (GT T0 T) → (WT T σ) → (FrC T0 [5, 6, 7, 43, 44, 47, 50, 51, 84, 85, 86, 87, 521] σ0 σ) → (OB T a 5) → (-2147483648 ≤ i4 ∧ i4 ≤ 2147483647) → (0 ≤ i5 ∧ i5 ≤ 2147483647) → (RP σ a kp) → Tn (d + 51) m_X5_call 77 T σ [(0, .ref a), (1, .int (iI c1)), (2, .int (iI c2)), (3, .int (iI c3)), (4, .int (iI i4)), (5, .int (iI i5))] [] post) (hx_126 : ∀ (T : CT) (i4 : Int) (i5 : Int) (σ : MS) , (GT T0 T) → (WT T σ) → (FrC T0 [5, 6, 7, 43, 44, 47, 50, 51, 84, 85, 86, 87, 521] σ0 σ) → (OB T a 5) → (-2147483648 ≤ i4 ∧ i4 ≤ 2147483647) → (0 ≤ i5 ∧ i5 ≤ 2147483647) → (RP σ a kp) → Tn (d + 51) m_X5_call 126 T σ [(0, .ref a), (1, .int (iI c1)), (2, .int (iI c2)), (3, .int (iI c3)), (4, .int (iI i4)), (5, .int (iI i5))] [] post) (hx_142 : ∀ (T : CT) (i4 : Int) (i5 : Int) (σ : MS) , (GT T0 T) → (WT T σ) → (FrC T0 [5, 6, 7, 43, 44, 47, 50, 51, 84, 85, 86, 87, 521] σ0 σ) → (OB T a 5) → (-2147483648 ≤ i4 ∧ i4 ≤ 2147483647) → (0 ≤ i5 ∧ i5 ≤ 2147483647) → (RP σ a kp) → Tn (d + 51) m_X5_call 142 T σ [(0, .ref a), (1, .int (iI c1)), (2, .int (iI c2)), (3, .int (iI c3)), (4, .int (iI i4)), (5, .int (iI i5))] [] post) : ∀ (n : Nat) (T : CT) (i4 : Int) (i5 : Int) (σ : MS) , (GT T0 T) → (WT T σ) → (FrC T0 [5, 6, 7, 43, 44, 47, 50, 51, 84, 85, 86, 87, 521] σ0 σ) → (OB T a 5) → (-2147483648 ≤ i4 ∧ i4 ≤ 2147483647) → (0 ≤ i5 ∧ i5 ≤ 2147483647) → (RP σ a kp) → (2147483700 - i5).toNat = n → Tn (d + 51) m_X5_call 44 T σ [(0, .ref a), (1, .int (iI c1)), (2, .int (iI c2)), (3, .int (iI c3)), (4, .int (iI i4)), (5, .int (iI i5))] [] post := by
  intro n
  induction n using Nat.strongRecOn with
  | _ n ih =>
    intro T i4 i5 σ hG hw hF h_a r_i4 r_i5 hrp hm
    refine tn_iload dX5_call_44 5 rfl ?_
    refine tn_sipush dX5_call_46 (by decide) ?_
    refine tn_icmp_ge (tgt := 142) dX5_call_49 (by decide) ⟨by omega, by omega⟩ ⟨by decide, by decide⟩ (fun h1 => ?_) (fun h1 => ?_)
    · exact tn_sub [0, 1, 2, 3, 4, 5] rfl (hx_142 T (i4) (i5) σ hG hw (FrC.rfl.trans (FrC.sub hF (by decide))) h_a (by omega) (by omega) (RP.up hrp (by omega)))
    · refine tn_aload_n dX5_call_52 rfl 0 rfl ?_
      obtain ⟨x2, hx3, hk4⟩ : ∃ x : Nat, σ.2.1 33 a = (x : Int) ∧ (T x).1 = 39 := wf_33 hw h_a
      have hk4o : OB T x2 9 := ⟨by omega, by rw [hk4]; rfl, by omega⟩
      refine tn_getR (ci := 5) (i := 0) (n := 33) (x := x2) dX5_call_53 rfl lay_5 (by decide) fl5_12 h_a rfl rfl (hx3) ?_
      refine tn_getI (ci := 9) (i := 4) (n := 85) (t := σ.2.1 85 x2) dX5_call_56 rfl lay_9 (by decide) fl5_71 hk4o rfl rfl (rfl) ?_
      have g6 : ((-2147483648 : Int) ≤ σ.2.1 85 x2 ∧ σ.2.1 85 x2 ≤ 2147483647) := wf_85 hw hk4o
      refine tn_bipush dX5_call_59 (by decide) ?_
      refine tn_icmp_ne (tgt := 69) dX5_call_61 (by decide) ⟨by omega, by omega⟩ ⟨by decide, by decide⟩ (fun h7 => ?_) (fun h7 => ?_)
      · refine tn_aload_n dX5_call_69 rfl 0 rfl ?_
        refine tn_iconst dX5_call_70 ?_
        refine tn_callV (M := m_X5_call) (pc := 71) (ix := 213) (ci := 5) (M' := m_X5_expression) (As := [.int (iI 1)]) (rest := []) dX5_call_71 ok_X5_expression im_X5_expression se_X5_expression ml5_213 np_X5_expression rfl rfl h_a rfl (Nat.le_of_ble_eq_true rfl) (Nat.le_of_ble_eq_true rfl) rfl (k_X5_expression (d) (T := T) (σ := σ) (a := a) (dp := 1) (kp := kp) h_a (by decide) hw (by omega) (by omega) hrp) (fun r8 T10 σ9 gt11 hp => ?_)
        obtain ⟨v14, rfl, w15, F16, f12, f13⟩ := hp
        replace h_a : OB T10 a 5 := gt11.ob h_a
        show Tn _ _ 74 T10 σ9 [(0, .ref a), (1, .int (iI c1)), (2, .int (iI c2)), (3, .int (iI c3)), (4, .int (iI i4)), (5, .int (iI i5))] [.int (iI v14)] _
        refine tn_if_ne (tgt := 79) dX5_call_74 (by decide) ⟨by omega, by omega⟩ (fun h18 => ?_) (fun h18 => ?_)
        · refine tn_aload_n dX5_call_79 rfl 0 rfl ?_
          obtain ⟨x19, hx20, hk21, hl22⟩ : ∃ x : Nat, σ9.2.1 49 a = (x : Int) ∧ AR T10 x 1 8 8 := wf_49 w15 h_a
          have hk21i : IA T10 x19 := by unfold IA; omega
          refine tn_getR (ci := 5) (i := 16) (n := 49) (x := x19) dX5_call_80 rfl lay_5 (by decide) fl5_43 h_a rfl rfl (hx20) ?_
          refine tn_iconst dX5_call_83 ?_
          refine tn_iload dX5_call_84 4 rfl ?_
          refine tn_imul dX5_call_86 ?_
          refine tn_any (fun z23 g24 => ?_)
          have g24r : -2147483648 ≤ z23 ∧ z23 ≤ 2147483647 := g24
          refine tn_aload_n dX5_call_87 rfl 0 rfl ?_
          refine tn_getI (ci := 5) (i := 17) (n := 50) (t := σ9.2.1 50 a) dX5_call_88 rfl lay_5 (by decide) fl5_216 h_a rfl rfl (rfl) ?_
          have g25 : ((-2147483648 : Int) ≤ σ9.2.1 50 a ∧ σ9.2.1 50 a ≤ 2147483647) := wf_50 w15 h_a
          refine tn_callSN (M := m_X5_call) (pc := 91) (ix := 129) (M' := m_X11_put) (As := [.ref x19, .int (iI z23), .int (iI (σ9.2.1 50 a))]) (rest := []) dX5_call_91 ok_X11_put stt_X11_put nl5_129 np_X11_put rfl (Nat.le_of_ble_eq_true rfl) (Nat.le_of_ble_eq_true rfl) rfl (k_X11_put (d + 49) (T := T10) (σ := σ9) (x := x19) (i := z23) (y := σ9.2.1 50 a) hk21i (by omega) (by omega) (by omega) w15 (nh_k hk21 (by unfold HT; omega)) (vok_1 (by have q9 := hk21; omega) (by omega))) (fun r26 T28 σ27 gt29 hp => ?_)
          obtain ⟨rfl, rfl, w31, F32⟩ := hp
          clear gt29
          have rp33 : RP σ27 a (kp - 4 * v14) := RP.frc f13 F32 (by decide) (by decide) (by decide) (by decide) (by decide)
          show Tn _ _ 94 T10 σ27 [(0, .ref a), (1, .int (iI c1)), (2, .int (iI c2)), (3, .int (iI c3)), (4, .int (iI i4)), (5, .int (iI i5))] [] _
          refine tn_aload_n dX5_call_94 rfl 0 rfl ?_
          refine tn_getR (ci := 5) (i := 16) (n := 49) (x := x19) dX5_call_95 rfl lay_5 (by decide) fl5_43 h_a rfl rfl (rc_F F32 (Or.inl (by decide)) (by decide) (hx20)) ?_
          refine tn_iconst dX5_call_98 ?_
          refine tn_iload dX5_call_99 4 rfl ?_
          refine tn_imul dX5_call_101 ?_
          refine tn_any (fun z34 g35 => ?_)
          have g35r : -2147483648 ≤ z34 ∧ z34 ≤ 2147483647 := g35
          refine tn_iconst dX5_call_102 ?_
          refine tn_iadd dX5_call_103 ?_
          refine tn_any (fun z36 g37 => ?_)
          have g37r : -2147483648 ≤ z36 ∧ z36 ≤ 2147483647 := g37
          refine tn_aload_n dX5_call_104 rfl 0 rfl ?_
          refine tn_getI (ci := 5) (i := 18) (n := 51) (t := σ9.2.1 51 a) dX5_call_105 rfl lay_5 (by decide) fl5_219 h_a rfl rfl (rc_F F32 (Or.inl (by decide)) (by decide) (rfl)) ?_
          have g38 : ((-2147483648 : Int) ≤ σ9.2.1 51 a ∧ σ9.2.1 51 a ≤ 2147483647) := wf_51 w15 h_a
          refine tn_callSN (M := m_X5_call) (pc := 108) (ix := 129) (M' := m_X11_put) (As := [.ref x19, .int (iI z36), .int (iI (σ9.2.1 51 a))]) (rest := []) dX5_call_108 ok_X11_put stt_X11_put nl5_129 np_X11_put rfl (Nat.le_of_ble_eq_true rfl) (Nat.le_of_ble_eq_true rfl) rfl (k_X11_put (d + 49) (T := T10) (σ := σ27) (x := x19) (i := z36) (y := σ9.2.1 51 a) hk21i (by omega) (by omega) (by omega) w31 (nh_k hk21 (by unfold HT; omega)) (vok_1 (by have q9 := hk21; omega) (by omega))) (fun r39 T41 σ40 gt42 hp => ?_)
          obtain ⟨rfl, rfl, w44, F45⟩ := hp
          clear gt42
          have rp46 : RP σ40 a (kp - 4 * v14) := RP.frc rp33 F45 (by decide) (by decide) (by decide) (by decide) (by decide)
          show Tn _ _ 111 T10 σ40 [(0, .ref a), (1, .int (iI c1)), (2, .int (iI c2)), (3, .int (iI c3)), (4, .int (iI i4)), (5, .int (iI i5))] [] _
          refine tn_iinc (q0 := 4) (L' := [(4, .int (iI (i4 + 1))), (0, .ref a), (1, .int (iI c1)), (2, .int (iI c2)), (3, .int (iI c3)), (5, .int (iI i5))]) dX5_call_111 rfl (by decide) rfl ?_
          obtain ⟨z47, g48, g48e⟩ := wr_ex (i4 + 1)
          rw [g48e]
          have g48r : -2147483648 ≤ z47 ∧ z47 ≤ 2147483647 := g48
          refine tn_aload_n dX5_call_114 rfl 1 rfl ?_
          obtain ⟨x49, hx50, hk51⟩ : ∃ x : Nat, σ9.2.1 33 a = (x : Int) ∧ (T10 x).1 = 39 := wf_33 w15 h_a
          have hk51o : OB T10 x49 9 := ⟨by omega, by rw [hk51]; rfl, by omega⟩
          refine tn_getR (ci := 5) (i := 0) (n := 33) (x := x49) dX5_call_115 rfl lay_5 (by decide) fl5_12 h_a rfl rfl (rc_F F45 (Or.inl (by decide)) (by decide) (rc_F F32 (Or.inl (by decide)) (by decide) (hx50))) ?_
          refine tn_getI (ci := 9) (i := 4) (n := 85) (t := σ9.2.1 85 x49) dX5_call_118 rfl lay_9 (by decide) fl5_71 hk51o rfl rfl (rc_F F45 (Or.inl (by decide)) (by decide) (rc_F F32 (Or.inl (by decide)) (by decide) (rfl))) ?_
          have g53 : ((-2147483648 : Int) ≤ σ9.2.1 85 x49 ∧ σ9.2.1 85 x49 ≤ 2147483647) := wf_85 w15 hk51o
          refine tn_bipush dX5_call_121 (by decide) ?_
          refine tn_icmp_eq (tgt := 129) dX5_call_123 (by decide) ⟨by omega, by omega⟩ ⟨by decide, by decide⟩ (fun h54 => ?_) (fun h54 => ?_)
          · refine tn_aload_n dX5_call_129 rfl 1 rfl ?_
            refine tn_getR (ci := 5) (i := 0) (n := 33) (x := x49) dX5_call_130 rfl lay_5 (by decide) fl5_12 h_a rfl rfl (rc_F F45 (Or.inl (by decide)) (by decide) (rc_F F32 (Or.inl (by decide)) (by decide) (hx50))) ?_
            have q59 : σ40.2.1 84 x49 = σ9.2.1 84 x49 := rc_F F45 (Or.inl (by decide)) (by decide) (rc_F F32 (Or.inl (by decide)) (by decide) (rfl))
            refine tn_callV (M := m_X5_call) (pc := 133) (ix := 93) (ci := 9) (M' := m_X9_next) (As := []) (rest := []) dX5_call_133 ok_X9_next im_X9_next se_X9_next ml5_93 np_X9_next rfl rfl hk51o rfl (Nat.le_of_ble_eq_true rfl) (Nat.le_of_ble_eq_true rfl) rfl (k_X9_next (d + 49) (T := T10) (σ := σ40) (a := x49) hk51o w44 (RP.tk rp46 w44 h_a (rc_F F45 (Or.inl (by decide)) (by decide) (rc_F F32 (Or.inl (by decide)) (by decide) (hx50))))) (fun r55 T57 σ56 gt58 hp => ?_)
            obtain ⟨rfl, rfl, w64, F65, f60, f61, f62⟩ := hp
            clear gt58
            have rp66 : RP σ56 a (kp - 4 * v14 - 4) := RP.next4 rp46 (rc_F F45 (Or.inl (by decide)) (by decide) (rc_F F32 (Or.inl (by decide)) (by decide) (hx50))) F65 (by decide) (by decide) (by decide) f60 f62 (by rw [show σ40.2.1 85 x49 = σ9.2.1 85 x49 from rc_F F45 (Or.inl (by decide)) (by decide) (rc_F F32 (Or.inl (by decide)) (by decide) (rfl))]; omega)
            show Tn _ _ 136 T10 σ56 [(4, .int (iI z47)), (0, .ref a), (1, .int (iI c1)), (2, .int (iI c2)), (3, .int (iI c3)), (5, .int (iI i5))] [] _
            refine tn_iinc (q0 := 5) (L' := [(5, .int (iI (i5 + 1))), (4, .int (iI z47)), (0, .ref a), (1, .int (iI c1)), (2, .int (iI c2)), (3, .int (iI c3))]) dX5_call_136 rfl (by decide) rfl ?_
            refine tn_goto (tgt := 44) dX5_call_139 (by decide) ?_
            exact tn_sub [2, 3, 4, 5, 1, 0] rfl (ih _ (by omega) T10 (z47) (i5 + 1) σ56 (GT.trans hG gt11) w64 (((((FrC.rfl.trans (FrC.sub hF (by decide))).trans (FrC.sub (FrC.old F16 hG) (by decide))).trans (FrC.sub (FrC.old F32 (GT.trans hG gt11)) (by decide))).trans (FrC.sub (FrC.old F45 (GT.trans hG gt11)) (by decide))).trans (FrC.sub (FrC.old F65 (GT.trans hG gt11)) (by decide))) h_a (by omega) (by omega) (RP.up rp66 (by omega)) rfl)
          · exact tn_sub [1, 2, 3, 4, 0, 5] rfl (hx_126 T10 (z47) (i5) σ40 (GT.trans hG gt11) w44 ((((FrC.rfl.trans (FrC.sub hF (by decide))).trans (FrC.sub (FrC.old F16 hG) (by decide))).trans (FrC.sub (FrC.old F32 (GT.trans hG gt11)) (by decide))).trans (FrC.sub (FrC.old F45 (GT.trans hG gt11)) (by decide))) h_a (by omega) (by omega) (RP.up rp46 (by omega)))
        · exact tn_sub [0, 1, 2, 3, 4, 5] rfl (hx_77 T10 (i4) (i5) σ9 (GT.trans hG gt11) w15 ((FrC.rfl.trans (FrC.sub hF (by decide))).trans (FrC.sub (FrC.old F16 hG) (by decide))) h_a (by omega) (by omega) (RP.up f13 (by omega)))
      · refine tn_iload dX5_call_64 4 rfl ?_
        refine tn_if_le (tgt := 142) dX5_call_66 (by decide) ⟨by omega, by omega⟩ (fun h67 => ?_) (fun h67 => ?_)
        · exact tn_sub [0, 1, 2, 3, 4, 5] rfl (hx_142 T (i4) (i5) σ hG hw (FrC.rfl.trans (FrC.sub hF (by decide))) h_a (by omega) (by omega) (RP.up hrp (by omega)))
        · refine tn_aload_n dX5_call_69 rfl 0 rfl ?_
          refine tn_iconst dX5_call_70 ?_
          refine tn_callV (M := m_X5_call) (pc := 71) (ix := 213) (ci := 5) (M' := m_X5_expression) (As := [.int (iI 1)]) (rest := []) dX5_call_71 ok_X5_expression im_X5_expression se_X5_expression ml5_213 np_X5_expression rfl rfl h_a rfl (Nat.le_of_ble_eq_true rfl) (Nat.le_of_ble_eq_true rfl) rfl (k_X5_expression (d) (T := T) (σ := σ) (a := a) (dp := 1) (kp := kp) h_a (by decide) hw (by omega) (by omega) hrp) (fun r68 T70 σ69 gt71 hp => ?_)
          obtain ⟨v74, rfl, w75, F76, f72, f73⟩ := hp
          replace h_a : OB T70 a 5 := gt71.ob h_a
          show Tn _ _ 74 T70 σ69 [(0, .ref a), (1, .int (iI c1)), (2, .int (iI c2)), (3, .int (iI c3)), (4, .int (iI i4)), (5, .int (iI i5))] [.int (iI v74)] _
          refine tn_if_ne (tgt := 79) dX5_call_74 (by decide) ⟨by omega, by omega⟩ (fun h78 => ?_) (fun h78 => ?_)
          · refine tn_aload_n dX5_call_79 rfl 0 rfl ?_
            obtain ⟨x79, hx80, hk81, hl82⟩ : ∃ x : Nat, σ69.2.1 49 a = (x : Int) ∧ AR T70 x 1 8 8 := wf_49 w75 h_a
            have hk81i : IA T70 x79 := by unfold IA; omega
            refine tn_getR (ci := 5) (i := 16) (n := 49) (x := x79) dX5_call_80 rfl lay_5 (by decide) fl5_43 h_a rfl rfl (hx80) ?_
            refine tn_iconst dX5_call_83 ?_
            refine tn_iload dX5_call_84 4 rfl ?_
            refine tn_imul dX5_call_86 ?_
            refine tn_any (fun z83 g84 => ?_)
            have g84r : -2147483648 ≤ z83 ∧ z83 ≤ 2147483647 := g84
            refine tn_aload_n dX5_call_87 rfl 0 rfl ?_
            refine tn_getI (ci := 5) (i := 17) (n := 50) (t := σ69.2.1 50 a) dX5_call_88 rfl lay_5 (by decide) fl5_216 h_a rfl rfl (rfl) ?_
            have g85 : ((-2147483648 : Int) ≤ σ69.2.1 50 a ∧ σ69.2.1 50 a ≤ 2147483647) := wf_50 w75 h_a
            refine tn_callSN (M := m_X5_call) (pc := 91) (ix := 129) (M' := m_X11_put) (As := [.ref x79, .int (iI z83), .int (iI (σ69.2.1 50 a))]) (rest := []) dX5_call_91 ok_X11_put stt_X11_put nl5_129 np_X11_put rfl (Nat.le_of_ble_eq_true rfl) (Nat.le_of_ble_eq_true rfl) rfl (k_X11_put (d + 49) (T := T70) (σ := σ69) (x := x79) (i := z83) (y := σ69.2.1 50 a) hk81i (by omega) (by omega) (by omega) w75 (nh_k hk81 (by unfold HT; omega)) (vok_1 (by have q9 := hk81; omega) (by omega))) (fun r86 T88 σ87 gt89 hp => ?_)
            obtain ⟨rfl, rfl, w91, F92⟩ := hp
            clear gt89
            have rp93 : RP σ87 a (kp - 4 * v74) := RP.frc f73 F92 (by decide) (by decide) (by decide) (by decide) (by decide)
            show Tn _ _ 94 T70 σ87 [(0, .ref a), (1, .int (iI c1)), (2, .int (iI c2)), (3, .int (iI c3)), (4, .int (iI i4)), (5, .int (iI i5))] [] _
            refine tn_aload_n dX5_call_94 rfl 0 rfl ?_
            refine tn_getR (ci := 5) (i := 16) (n := 49) (x := x79) dX5_call_95 rfl lay_5 (by decide) fl5_43 h_a rfl rfl (rc_F F92 (Or.inl (by decide)) (by decide) (hx80)) ?_
            refine tn_iconst dX5_call_98 ?_
            refine tn_iload dX5_call_99 4 rfl ?_
            refine tn_imul dX5_call_101 ?_
            refine tn_any (fun z94 g95 => ?_)
            have g95r : -2147483648 ≤ z94 ∧ z94 ≤ 2147483647 := g95
            refine tn_iconst dX5_call_102 ?_
            refine tn_iadd dX5_call_103 ?_
            refine tn_any (fun z96 g97 => ?_)
            have g97r : -2147483648 ≤ z96 ∧ z96 ≤ 2147483647 := g97
            refine tn_aload_n dX5_call_104 rfl 0 rfl ?_
            refine tn_getI (ci := 5) (i := 18) (n := 51) (t := σ69.2.1 51 a) dX5_call_105 rfl lay_5 (by decide) fl5_219 h_a rfl rfl (rc_F F92 (Or.inl (by decide)) (by decide) (rfl)) ?_
            have g98 : ((-2147483648 : Int) ≤ σ69.2.1 51 a ∧ σ69.2.1 51 a ≤ 2147483647) := wf_51 w75 h_a
            refine tn_callSN (M := m_X5_call) (pc := 108) (ix := 129) (M' := m_X11_put) (As := [.ref x79, .int (iI z96), .int (iI (σ69.2.1 51 a))]) (rest := []) dX5_call_108 ok_X11_put stt_X11_put nl5_129 np_X11_put rfl (Nat.le_of_ble_eq_true rfl) (Nat.le_of_ble_eq_true rfl) rfl (k_X11_put (d + 49) (T := T70) (σ := σ87) (x := x79) (i := z96) (y := σ69.2.1 51 a) hk81i (by omega) (by omega) (by omega) w91 (nh_k hk81 (by unfold HT; omega)) (vok_1 (by have q9 := hk81; omega) (by omega))) (fun r99 T101 σ100 gt102 hp => ?_)
            obtain ⟨rfl, rfl, w104, F105⟩ := hp
            clear gt102
            have rp106 : RP σ100 a (kp - 4 * v74) := RP.frc rp93 F105 (by decide) (by decide) (by decide) (by decide) (by decide)
            show Tn _ _ 111 T70 σ100 [(0, .ref a), (1, .int (iI c1)), (2, .int (iI c2)), (3, .int (iI c3)), (4, .int (iI i4)), (5, .int (iI i5))] [] _
            refine tn_iinc (q0 := 4) (L' := [(4, .int (iI (i4 + 1))), (0, .ref a), (1, .int (iI c1)), (2, .int (iI c2)), (3, .int (iI c3)), (5, .int (iI i5))]) dX5_call_111 rfl (by decide) rfl ?_
            obtain ⟨z107, g108, g108e⟩ := wr_ex (i4 + 1)
            rw [g108e]
            have g108r : -2147483648 ≤ z107 ∧ z107 ≤ 2147483647 := g108
            refine tn_aload_n dX5_call_114 rfl 1 rfl ?_
            obtain ⟨x109, hx110, hk111⟩ : ∃ x : Nat, σ69.2.1 33 a = (x : Int) ∧ (T70 x).1 = 39 := wf_33 w75 h_a
            have hk111o : OB T70 x109 9 := ⟨by omega, by rw [hk111]; rfl, by omega⟩
            refine tn_getR (ci := 5) (i := 0) (n := 33) (x := x109) dX5_call_115 rfl lay_5 (by decide) fl5_12 h_a rfl rfl (rc_F F105 (Or.inl (by decide)) (by decide) (rc_F F92 (Or.inl (by decide)) (by decide) (hx110))) ?_
            refine tn_getI (ci := 9) (i := 4) (n := 85) (t := σ69.2.1 85 x109) dX5_call_118 rfl lay_9 (by decide) fl5_71 hk111o rfl rfl (rc_F F105 (Or.inl (by decide)) (by decide) (rc_F F92 (Or.inl (by decide)) (by decide) (rfl))) ?_
            have g113 : ((-2147483648 : Int) ≤ σ69.2.1 85 x109 ∧ σ69.2.1 85 x109 ≤ 2147483647) := wf_85 w75 hk111o
            refine tn_bipush dX5_call_121 (by decide) ?_
            refine tn_icmp_eq (tgt := 129) dX5_call_123 (by decide) ⟨by omega, by omega⟩ ⟨by decide, by decide⟩ (fun h114 => ?_) (fun h114 => ?_)
            · refine tn_aload_n dX5_call_129 rfl 1 rfl ?_
              refine tn_getR (ci := 5) (i := 0) (n := 33) (x := x109) dX5_call_130 rfl lay_5 (by decide) fl5_12 h_a rfl rfl (rc_F F105 (Or.inl (by decide)) (by decide) (rc_F F92 (Or.inl (by decide)) (by decide) (hx110))) ?_
              have q119 : σ100.2.1 84 x109 = σ69.2.1 84 x109 := rc_F F105 (Or.inl (by decide)) (by decide) (rc_F F92 (Or.inl (by decide)) (by decide) (rfl))
              refine tn_callV (M := m_X5_call) (pc := 133) (ix := 93) (ci := 9) (M' := m_X9_next) (As := []) (rest := []) dX5_call_133 ok_X9_next im_X9_next se_X9_next ml5_93 np_X9_next rfl rfl hk111o rfl (Nat.le_of_ble_eq_true rfl) (Nat.le_of_ble_eq_true rfl) rfl (k_X9_next (d + 49) (T := T70) (σ := σ100) (a := x109) hk111o w104 (RP.tk rp106 w104 h_a (rc_F F105 (Or.inl (by decide)) (by decide) (rc_F F92 (Or.inl (by decide)) (by decide) (hx110))))) (fun r115 T117 σ116 gt118 hp => ?_)
              obtain ⟨rfl, rfl, w124, F125, f120, f121, f122⟩ := hp
              clear gt118
              have rp126 : RP σ116 a (kp - 4 * v74 - 4) := RP.next4 rp106 (rc_F F105 (Or.inl (by decide)) (by decide) (rc_F F92 (Or.inl (by decide)) (by decide) (hx110))) F125 (by decide) (by decide) (by decide) f120 f122 (by rw [show σ100.2.1 85 x109 = σ69.2.1 85 x109 from rc_F F105 (Or.inl (by decide)) (by decide) (rc_F F92 (Or.inl (by decide)) (by decide) (rfl))]; omega)
              show Tn _ _ 136 T70 σ116 [(4, .int (iI z107)), (0, .ref a), (1, .int (iI c1)), (2, .int (iI c2)), (3, .int (iI c3)), (5, .int (iI i5))] [] _
              refine tn_iinc (q0 := 5) (L' := [(5, .int (iI (i5 + 1))), (4, .int (iI z107)), (0, .ref a), (1, .int (iI c1)), (2, .int (iI c2)), (3, .int (iI c3))]) dX5_call_136 rfl (by decide) rfl ?_
              refine tn_goto (tgt := 44) dX5_call_139 (by decide) ?_
              exact tn_sub [2, 3, 4, 5, 1, 0] rfl (ih _ (by omega) T70 (z107) (i5 + 1) σ116 (GT.trans hG gt71) w124 (((((FrC.rfl.trans (FrC.sub hF (by decide))).trans (FrC.sub (FrC.old F76 hG) (by decide))).trans (FrC.sub (FrC.old F92 (GT.trans hG gt71)) (by decide))).trans (FrC.sub (FrC.old F105 (GT.trans hG gt71)) (by decide))).trans (FrC.sub (FrC.old F125 (GT.trans hG gt71)) (by decide))) h_a (by omega) (by omega) (RP.up rp126 (by omega)) rfl)
            · exact tn_sub [1, 2, 3, 4, 0, 5] rfl (hx_126 T70 (z107) (i5) σ100 (GT.trans hG gt71) w104 ((((FrC.rfl.trans (FrC.sub hF (by decide))).trans (FrC.sub (FrC.old F76 hG) (by decide))).trans (FrC.sub (FrC.old F92 (GT.trans hG gt71)) (by decide))).trans (FrC.sub (FrC.old F105 (GT.trans hG gt71)) (by decide))) h_a (by omega) (by omega) (RP.up rp106 (by omega)))
          · exact tn_sub [0, 1, 2, 3, 4, 5] rfl (hx_77 T70 (i4) (i5) σ69 (GT.trans hG gt71) w75 ((FrC.rfl.trans (FrC.sub hF (by decide))).trans (FrC.sub (FrC.old F76 hG) (by decide))) h_a (by omega) (by omega) (RP.up f73 (by omega)))
theorem ml5_228 : Cond.methodLink RX5 228 yX5_listCall ∈ pWW := pw3 (List.mem_of_getElem? (i := 190) rfl) rfl
theorem dX5_call_77 : decode cX5_call 77 = .ok (.iconst 0, 1) := by decide +kernel
theorem dX5_call_78 : decode cX5_call 78 = .ok (.ireturn, 1) := by decide +kernel
theorem dX5_call_126 : decode cX5_call 126 = .ok (.goto 16, 3) := by decide +kernel
theorem dX5_call_142 : decode cX5_call 142 = .ok (.aload_n 0, 1) := by decide +kernel
theorem dX5_call_143 : decode cX5_call 143 = .ok (.bipush 41, 2) := by decide +kernel
theorem dX5_call_145 : decode cX5_call 145 = .ok (.invokevirtual 102, 3) := by decide +kernel
theorem dX5_call_148 : decode cX5_call 148 = .ok (.ifCond .eq 12, 3) := by decide +kernel
theorem dX5_call_160 : decode cX5_call 160 = .ok (.iconst 0, 1) := by decide +kernel
theorem dX5_call_161 : decode cX5_call 161 = .ok (.ireturn, 1) := by decide +kernel
theorem dX5_call_151 : decode cX5_call 151 = .ok (.aload_n 0, 1) := by decide +kernel
theorem dX5_call_152 : decode cX5_call 152 = .ok (.bipush 59, 2) := by decide +kernel
theorem dX5_call_154 : decode cX5_call 154 = .ok (.invokevirtual 102, 3) := by decide +kernel
theorem dX5_call_157 : decode cX5_call 157 = .ok (.ifCond .ne 5, 3) := by decide +kernel
theorem dX5_call_162 : decode cX5_call 162 = .ok (.aload_n 0, 1) := by decide +kernel
theorem dX5_call_163 : decode cX5_call 163 = .ok (.iload_n 2, 1) := by decide +kernel
theorem dX5_call_164 : decode cX5_call 164 = .ok (.iload_n 3, 1) := by decide +kernel
theorem dX5_call_165 : decode cX5_call 165 = .ok (.iload 4, 2) := by decide +kernel
theorem dX5_call_167 : decode cX5_call 167 = .ok (.invokevirtual 228, 3) := by decide +kernel
theorem dX5_call_170 : decode cX5_call 170 = .ok (.aload_n 0, 1) := by decide +kernel
theorem dX5_call_171 : decode cX5_call 171 = .ok (.getfield 47, 3) := by decide +kernel
theorem dX5_call_174 : decode cX5_call 174 = .ok (.bipush 10, 2) := by decide +kernel
theorem dX5_call_176 : decode cX5_call 176 = .ok (.iload_n 1, 1) := by decide +kernel
theorem dX5_call_177 : decode cX5_call 177 = .ok (.iload_n 2, 1) := by decide +kernel
theorem dX5_call_178 : decode cX5_call 178 = .ok (.invokevirtual 139, 3) := by decide +kernel
theorem dX5_call_181 : decode cX5_call 181 = .ok (.iconst 0, 1) := by decide +kernel
theorem dX5_call_182 : decode cX5_call 182 = .ok (.istore 5, 2) := by decide +kernel
theorem dX5_call_184 : decode cX5_call 184 = .ok (.iload 5, 2) := by decide +kernel
theorem dX5_call_186 : decode cX5_call 186 = .ok (.iconst 4, 1) := by decide +kernel
theorem dX5_call_187 : decode cX5_call 187 = .ok (.if_icmp .ge 42, 3) := by decide +kernel
theorem dX5_call_190 : decode cX5_call 190 = .ok (.aload_n 0, 1) := by decide +kernel
theorem dX5_call_191 : decode cX5_call 191 = .ok (.getfield 47, 3) := by decide +kernel
theorem dX5_call_194 : decode cX5_call 194 = .ok (.iload 5, 2) := by decide +kernel
theorem dX5_call_196 : decode cX5_call 196 = .ok (.aload_n 0, 1) := by decide +kernel
theorem dX5_call_197 : decode cX5_call 197 = .ok (.getfield 43, 3) := by decide +kernel
theorem dX5_call_200 : decode cX5_call 200 = .ok (.iconst 2, 1) := by decide +kernel
theorem dX5_call_201 : decode cX5_call 201 = .ok (.iload 5, 2) := by decide +kernel
theorem dX5_call_203 : decode cX5_call 203 = .ok (.imul, 1) := by decide +kernel
theorem dX5_call_204 : decode cX5_call 204 = .ok (.invokestatic 231, 3) := by decide +kernel
theorem dX5_call_207 : decode cX5_call 207 = .ok (.aload_n 0, 1) := by decide +kernel
theorem dX5_call_208 : decode cX5_call 208 = .ok (.getfield 43, 3) := by decide +kernel
theorem dX5_call_211 : decode cX5_call 211 = .ok (.iconst 2, 1) := by decide +kernel
theorem dX5_call_212 : decode cX5_call 212 = .ok (.iload 5, 2) := by decide +kernel
theorem dX5_call_214 : decode cX5_call 214 = .ok (.imul, 1) := by decide +kernel
theorem dX5_call_215 : decode cX5_call 215 = .ok (.iconst 1, 1) := by decide +kernel
theorem dX5_call_216 : decode cX5_call 216 = .ok (.iadd, 1) := by decide +kernel
theorem dX5_call_217 : decode cX5_call 217 = .ok (.invokestatic 231, 3) := by decide +kernel
theorem dX5_call_220 : decode cX5_call 220 = .ok (.invokevirtual 143, 3) := by decide +kernel
theorem dX5_call_223 : decode cX5_call 223 = .ok (.iinc 5 1, 3) := by decide +kernel
theorem dX5_call_226 : decode cX5_call 226 = .ok (.goto (-42), 3) := by decide +kernel
set_option maxRecDepth 20000 in
theorem l_X5_call_184 (d : Nat) {T : CT} {σ0 : MS} {a : Nat} {kp : Int} {post : Option Value → CT → MS → Prop} (h_a : OB T a 5) (hw0 : WT T σ0) (hkp : kp ≤ 150) (hx_229 : ∀ (i5 : Int) (σ : MS) , (WT T σ) → (FrC T [] σ0 σ) → (0 ≤ i5 ∧ i5 ≤ 2147483647) → (RP σ a kp) → Tn (d + 51) m_X5_call 229 T σ [(0, .ref a), (5, .int (iI i5))] [] post) : ∀ (n : Nat) (i5 : Int) (σ : MS) , (WT T σ) → (FrC T [] σ0 σ) → (0 ≤ i5 ∧ i5 ≤ 2147483647) → (RP σ a kp) → (2147483700 - i5).toNat = n → Tn (d + 51) m_X5_call 184 T σ [(0, .ref a), (5, .int (iI i5))] [] post := by
  intro n
  induction n using Nat.strongRecOn with
  | _ n ih =>
    intro i5 σ hw hF r_i5 hrp hm
    refine tn_iload dX5_call_184 1 rfl ?_
    refine tn_iconst dX5_call_186 ?_
    refine tn_icmp_ge (tgt := 229) dX5_call_187 (by decide) ⟨by omega, by omega⟩ ⟨by decide, by decide⟩ (fun h1 => ?_) (fun h1 => ?_)
    · exact tn_sub [0, 1] rfl (hx_229 (i5) σ hw (FrC.rfl.trans (FrC.sub hF (by decide))) (by omega) (RP.up hrp (by omega)))
    · refine tn_aload_n dX5_call_190 rfl 0 rfl ?_
      obtain ⟨x2, hx3, hk4⟩ : ∃ x : Nat, σ0.2.1 35 a = (x : Int) ∧ (T x).1 = 31 := wf_35 hw0 h_a
      have hk4o : OB T x2 1 := ⟨by omega, by rw [hk4]; rfl, by omega⟩
      refine tn_getR (ci := 5) (i := 2) (n := 35) (x := x2) dX5_call_191 rfl lay_5 (by decide) fl5_47 h_a rfl rfl (rc_F hF (Or.inl (by decide)) (by decide) (hx3)) ?_
      refine tn_iload dX5_call_194 1 rfl ?_
      refine tn_aload_n dX5_call_196 rfl 0 rfl ?_
      obtain ⟨x6, hx7, hk8, hl9⟩ : ∃ x : Nat, σ0.2.1 49 a = (x : Int) ∧ AR T x 1 8 8 := wf_49 hw0 h_a
      have hk8i : IA T x6 := by unfold IA; omega
      refine tn_getR (ci := 5) (i := 16) (n := 49) (x := x6) dX5_call_197 rfl lay_5 (by decide) fl5_43 h_a rfl rfl (rc_F hF (Or.inl (by decide)) (by decide) (hx7)) ?_
      refine tn_iconst dX5_call_200 ?_
      refine tn_iload dX5_call_201 1 rfl ?_
      refine tn_imul dX5_call_203 ?_
      refine tn_callSN (M := m_X5_call) (pc := 204) (ix := 231) (M' := m_X11_at) (As := [.ref x6, .int (iI (2 * i5))]) (rest := [.int (iI i5), .ref x2]) dX5_call_204 ok_X11_at stt_X11_at nl5_231 np_X11_at rfl (Nat.le_of_ble_eq_true rfl) (Nat.le_of_ble_eq_true rfl) rfl (k_X11_at (d + 49) (T := T) (σ := σ) (x := x6) (i := 2 * i5) hk8i (by omega) (by omega) hw ) (fun r10 T12 σ11 gt13 hp => ?_)
      obtain ⟨v17, rfl, rfl, rfl, f14, f15, f16⟩ := hp
      clear gt13
      clear f15 f16
      show Tn _ _ 207 T σ [(0, .ref a), (5, .int (iI i5))] [.int (iI v17), .int (iI i5), .ref x2] _
      refine tn_aload_n dX5_call_207 rfl 0 rfl ?_
      refine tn_getR (ci := 5) (i := 16) (n := 49) (x := x6) dX5_call_208 rfl lay_5 (by decide) fl5_43 h_a rfl rfl (rc_F hF (Or.inl (by decide)) (by decide) (hx7)) ?_
      refine tn_iconst dX5_call_211 ?_
      refine tn_iload dX5_call_212 1 rfl ?_
      refine tn_imul dX5_call_214 ?_
      refine tn_iconst dX5_call_215 ?_
      refine tn_iadd dX5_call_216 ?_
      refine tn_callSN (M := m_X5_call) (pc := 217) (ix := 231) (M' := m_X11_at) (As := [.ref x6, .int (iI ((2 * i5) + 1))]) (rest := [.int (iI v17), .int (iI i5), .ref x2]) dX5_call_217 ok_X11_at stt_X11_at nl5_231 np_X11_at rfl (Nat.le_of_ble_eq_true rfl) (Nat.le_of_ble_eq_true rfl) rfl (k_X11_at (d + 49) (T := T) (σ := σ) (x := x6) (i := (2 * i5) + 1) hk8i (by omega) (by omega) hw ) (fun r18 T20 σ19 gt21 hp => ?_)
      obtain ⟨v25, rfl, rfl, rfl, f22, f23, f24⟩ := hp
      clear gt21
      clear f23 f24
      show Tn _ _ 220 T σ [(0, .ref a), (5, .int (iI i5))] [.int (iI v25), .int (iI v17), .int (iI i5), .ref x2] _
      refine tn_callV (M := m_X5_call) (pc := 220) (ix := 143) (ci := 1) (M' := m_X1_lastOperand) (As := [.int (iI i5), .int (iI v17), .int (iI v25)]) (rest := []) dX5_call_220 ok_X1_lastOperand im_X1_lastOperand se_X1_lastOperand ml5_143 np_X1_lastOperand rfl rfl hk4o rfl (Nat.le_of_ble_eq_true rfl) (Nat.le_of_ble_eq_true rfl) rfl (k_X1_lastOperand (d + 49) (T := T) (σ := σ) (a := x2) (i := i5) (k := v17) (y := v25) hk4o (by omega) (by omega) (by omega) hw ) (fun r26 T28 σ27 gt29 hp => ?_)
      obtain ⟨rfl, rfl, w31, F32⟩ := hp
      clear gt29
      have rp33 : RP σ27 a (kp) := RP.frc hrp F32 (by decide) (by decide) (by decide) (by decide) (by decide)
      show Tn _ _ 223 T σ27 [(0, .ref a), (5, .int (iI i5))] [] _
      refine tn_iinc (q0 := 1) (L' := [(5, .int (iI (i5 + 1))), (0, .ref a)]) dX5_call_223 rfl (by decide) rfl ?_
      refine tn_goto (tgt := 184) dX5_call_226 (by decide) ?_
      exact tn_sub [1, 0] rfl (ih _ (by omega) (i5 + 1) σ27 w31 ((FrC.rfl.trans (FrC.sub hF (by decide))).trans (FrC.sub F32 (by decide))) (by omega) (RP.up rp33 (by omega)) rfl)
theorem dX5_call_229 : decode cX5_call 229 = .ok (.iconst 1, 1) := by decide +kernel
theorem dX5_call_230 : decode cX5_call 230 = .ok (.ireturn, 1) := by decide +kernel
set_option maxRecDepth 20000 in
theorem k_X5_call (d : Nat) {T : CT} {σ : MS} {a : Nat} {r : Int} {kp : Int} (ha : OB T a 5) (h_r : -2147483648 ≤ r ∧ r ≤ 2147483647) (hw : WT T σ) (hkp : kp ≤ 150) (hrp : RP σ a kp) : Tn (d + 51) m_X5_call 0 T σ [(0, .ref a), (1, .int (iI r))] [] (fun ro T2 σ2 => ∃ v : Int, ro = some (.int (iI v)) ∧ WT T2 σ2 ∧ FrC T [5, 6, 7, 42, 43, 44, 47, 50, 51, 84, 85, 86, 87, 518, 519, 520, 521] σ σ2 ∧ (v = 0 ∨ v = 1) ∧ (RP σ2 a (kp - 7 * v))) := by
  refine tn_aload_n dX5_call_0 rfl 0 rfl ?_
  obtain ⟨x1, hx2, hk3⟩ : ∃ x : Nat, σ.2.1 33 a = (x : Int) ∧ (T x).1 = 39 := wf_33 hw ha
  have hk3o : OB T x1 9 := ⟨by omega, by rw [hk3]; rfl, by omega⟩
  refine tn_getR (ci := 5) (i := 0) (n := 33) (x := x1) dX5_call_1 rfl lay_5 (by decide) fl5_12 ha rfl rfl (hx2) ?_
  refine tn_getI (ci := 9) (i := 5) (n := 86) (t := σ.2.1 86 x1) dX5_call_4 rfl lay_9 (by decide) fl5_96 hk3o rfl rfl (rfl) ?_
  have g5 : ((-2147483648 : Int) ≤ σ.2.1 86 x1 ∧ σ.2.1 86 x1 ≤ 2147483647) := wf_86 hw hk3o
  refine tn_istore_n (L' := [(2, .int (iI (σ.2.1 86 x1))), (0, .ref a), (1, .int (iI r))]) dX5_call_7 rfl (by decide) rfl ?_
  refine tn_aload_n dX5_call_8 rfl 1 rfl ?_
  refine tn_getR (ci := 5) (i := 0) (n := 33) (x := x1) dX5_call_9 rfl lay_5 (by decide) fl5_12 ha rfl rfl (hx2) ?_
  refine tn_getI (ci := 9) (i := 6) (n := 87) (t := σ.2.1 87 x1) dX5_call_12 rfl lay_9 (by decide) fl5_74 hk3o rfl rfl (rfl) ?_
  have g6 : ((-2147483648 : Int) ≤ σ.2.1 87 x1 ∧ σ.2.1 87 x1 ≤ 2147483647) := wf_87 hw hk3o
  refine tn_istore_n (L' := [(3, .int (iI (σ.2.1 87 x1))), (2, .int (iI (σ.2.1 86 x1))), (0, .ref a), (1, .int (iI r))]) dX5_call_15 rfl (by decide) rfl ?_
  refine tn_aload_n dX5_call_16 rfl 2 rfl ?_
  refine tn_getR (ci := 5) (i := 0) (n := 33) (x := x1) dX5_call_17 rfl lay_5 (by decide) fl5_12 ha rfl rfl (hx2) ?_
  refine tn_callV (M := m_X5_call) (pc := 20) (ix := 93) (ci := 9) (M' := m_X9_next) (As := []) (rest := []) dX5_call_20 ok_X9_next im_X9_next se_X9_next ml5_93 np_X9_next rfl rfl hk3o rfl (Nat.le_of_ble_eq_true rfl) (Nat.le_of_ble_eq_true rfl) rfl (k_X9_next (d + 49) (T := T) (σ := σ) (a := x1) hk3o hw (RP.tk hrp hw ha (hx2))) (fun r7 T9 σ8 gt10 hp => ?_)
  obtain ⟨rfl, rfl, w15, F16, f11, f12, f13⟩ := hp
  clear gt10
  have rp17 : RP σ8 a (kp) := RP.next hrp (hx2) F16 (by decide) (by decide) (by decide) f11 f12
  show Tn _ _ 23 T σ8 [(3, .int (iI (σ.2.1 87 x1))), (2, .int (iI (σ.2.1 86 x1))), (0, .ref a), (1, .int (iI r))] [] _
  refine tn_aload_n dX5_call_23 rfl 2 rfl ?_
  refine tn_getR (ci := 5) (i := 0) (n := 33) (x := x1) dX5_call_24 rfl lay_5 (by decide) fl5_12 ha rfl rfl (rc_F F16 (Or.inl (by decide)) (by decide) (hx2)) ?_
  refine tn_callV (M := m_X5_call) (pc := 27) (ix := 93) (ci := 9) (M' := m_X9_next) (As := []) (rest := []) dX5_call_27 ok_X9_next im_X9_next se_X9_next ml5_93 np_X9_next rfl rfl hk3o rfl (Nat.le_of_ble_eq_true rfl) (Nat.le_of_ble_eq_true rfl) rfl (k_X9_next (d + 49) (T := T) (σ := σ8) (a := x1) hk3o w15 (RP.tk rp17 w15 ha (rc_F F16 (Or.inl (by decide)) (by decide) (hx2)))) (fun r18 T20 σ19 gt21 hp => ?_)
  obtain ⟨rfl, rfl, w26, F27, f22, f23, f24⟩ := hp
  clear gt21
  have rp28 : RP σ19 a (kp) := RP.next rp17 (rc_F F16 (Or.inl (by decide)) (by decide) (hx2)) F27 (by decide) (by decide) (by decide) f22 f23
  show Tn _ _ 30 T σ19 [(3, .int (iI (σ.2.1 87 x1))), (2, .int (iI (σ.2.1 86 x1))), (0, .ref a), (1, .int (iI r))] [] _
  refine tn_iconst dX5_call_30 ?_
  refine tn_istore (L' := [(4, .int (iI 0)), (3, .int (iI (σ.2.1 87 x1))), (2, .int (iI (σ.2.1 86 x1))), (0, .ref a), (1, .int (iI r))]) dX5_call_31 (by decide) rfl ?_
  refine tn_aload_n dX5_call_33 rfl 3 rfl ?_
  obtain ⟨x29, hx30, hk31, hl32⟩ : ∃ x : Nat, σ.2.1 49 a = (x : Int) ∧ AR T x 1 8 8 := wf_49 hw ha
  have hk31i : IA T x29 := by unfold IA; omega
  refine tn_getR (ci := 5) (i := 16) (n := 49) (x := x29) dX5_call_34 rfl lay_5 (by decide) fl5_43 ha rfl rfl (rc_F F27 (Or.inl (by decide)) (by decide) (rc_F F16 (Or.inl (by decide)) (by decide) (hx30))) ?_
  refine tn_iconst dX5_call_37 ?_
  refine tn_callS (M := m_X5_call) (pc := 38) (ix := 222) (M' := m_J7_fill_53178) (As := [.ref x29, .int (iI 0)]) (rest := []) dX5_call_38 ok_J7_fill_53178 stt_J7_fill_53178 ml5_222 np_J7_fill_53178 rfl (Nat.le_of_ble_eq_true rfl) (Nat.le_of_ble_eq_true rfl) rfl (k_J7_fill_53178 (d + 49) (T := T) (σ := σ19) (x := x29) (y := 0) hk31i (by omega) (by decide) w26 (nh_k hk31 (by unfold HT; omega)) (by omega)) (fun r33 T35 σ34 gt36 hp => ?_)
  obtain ⟨rfl, rfl, w38, F39⟩ := hp
  clear gt36
  have rp40 : RP σ34 a (kp) := RP.frc rp28 F39 (by decide) (by decide) (by decide) (by decide) (by decide)
  show Tn _ _ 41 T σ34 [(4, .int (iI 0)), (3, .int (iI (σ.2.1 87 x1))), (2, .int (iI (σ.2.1 86 x1))), (0, .ref a), (1, .int (iI r))] [] _
  refine tn_iconst dX5_call_41 ?_
  refine tn_istore (L' := [(5, .int (iI 0)), (4, .int (iI 0)), (3, .int (iI (σ.2.1 87 x1))), (2, .int (iI (σ.2.1 86 x1))), (0, .ref a), (1, .int (iI r))]) dX5_call_42 (by decide) rfl ?_
  refine tn_sub [4, 5, 3, 2, 1, 0] rfl (l_X5_call_44 (d) (σ0 := σ34) (T0 := T) (a := a) (c1 := r) (c2 := σ.2.1 86 x1) (c3 := σ.2.1 87 x1) (kp := kp) (by omega) (by omega) (by omega) w38 (by omega) (fun T44 i441 i542 σ43 gt45 w46 F47 q48 r49 r50 f51 => ?_) (fun T55 i452 i553 σ54 gt56 w57 F58 q59 r60 r61 f62 => ?_) (fun T66 i463 i564 σ65 gt67 w68 F69 q70 r71 r72 f73 => ?_) _ T (0) (0) σ34 GT.rfl w38 FrC.rfl ha (by omega) (by omega) rp40 rfl)
  · show Tn _ _ 77 T44 σ43 [(0, .ref a), (1, .int (iI r)), (2, .int (iI (σ.2.1 86 x1))), (3, .int (iI (σ.2.1 87 x1))), (4, .int (iI i441)), (5, .int (iI i542))] [] _
    refine tn_iconst dX5_call_77 ?_
    exact tn_zret (v := 0) rfl (by decide) dX5_call_78 ⟨_, rfl, w46, ((((FrC.rfl.trans (FrC.sub F16 (by decide))).trans (FrC.sub F27 (by decide))).trans (FrC.sub F39 (by decide))).trans (FrC.sub F47 (by decide))), by omega, (RP.up f51 (by omega))⟩
  · show Tn _ _ 126 T55 σ54 [(0, .ref a), (1, .int (iI r)), (2, .int (iI (σ.2.1 86 x1))), (3, .int (iI (σ.2.1 87 x1))), (4, .int (iI i452)), (5, .int (iI i553))] [] _
    refine tn_goto (tgt := 142) dX5_call_126 (by decide) ?_
    refine tn_aload_n dX5_call_142 rfl 0 rfl ?_
    refine tn_bipush dX5_call_143 (by decide) ?_
    refine tn_callV (M := m_X5_call) (pc := 145) (ix := 102) (ci := 5) (M' := m_X5_taken) (As := [.int (iI 41)]) (rest := []) dX5_call_145 ok_X5_taken im_X5_taken se_X5_taken ml5_102 np_X5_taken rfl rfl q59 rfl (Nat.le_of_ble_eq_true rfl) (Nat.le_of_ble_eq_true rfl) rfl (k_X5_taken (d + 48) (T := T55) (σ := σ54) (a := a) (s := 41) (kp := kp) q59 (by decide) w57 (by omega) (by omega) f62) (fun r74 T76 σ75 gt77 hp => ?_)
    obtain ⟨v80, rfl, rfl, w81, F82, f78, f79⟩ := hp
    clear gt77
    show Tn _ _ 148 T55 σ75 [(0, .ref a), (1, .int (iI r)), (2, .int (iI (σ.2.1 86 x1))), (3, .int (iI (σ.2.1 87 x1))), (4, .int (iI i452)), (5, .int (iI i553))] [.int (iI v80)] _
    refine tn_if_eq (tgt := 160) dX5_call_148 (by decide) ⟨by omega, by omega⟩ (fun h84 => ?_) (fun h84 => ?_)
    · refine tn_iconst dX5_call_160 ?_
      exact tn_zret (v := 0) rfl (by decide) dX5_call_161 ⟨_, rfl, w81, (((((FrC.rfl.trans (FrC.sub F16 (by decide))).trans (FrC.sub F27 (by decide))).trans (FrC.sub F39 (by decide))).trans (FrC.sub F58 (by decide))).trans (FrC.sub (FrC.old F82 gt56) (by decide))), by omega, (RP.up f79 (by omega))⟩
    · refine tn_aload_n dX5_call_151 rfl 0 rfl ?_
      refine tn_bipush dX5_call_152 (by decide) ?_
      refine tn_callV (M := m_X5_call) (pc := 154) (ix := 102) (ci := 5) (M' := m_X5_taken) (As := [.int (iI 59)]) (rest := []) dX5_call_154 ok_X5_taken im_X5_taken se_X5_taken ml5_102 np_X5_taken rfl rfl q59 rfl (Nat.le_of_ble_eq_true rfl) (Nat.le_of_ble_eq_true rfl) rfl (k_X5_taken (d + 48) (T := T55) (σ := σ75) (a := a) (s := 59) (kp := kp - 4 * v80) q59 (by decide) w81 (by omega) (by omega) f79) (fun r85 T87 σ86 gt88 hp => ?_)
      obtain ⟨v91, rfl, rfl, w92, F93, f89, f90⟩ := hp
      clear gt88
      show Tn _ _ 157 T55 σ86 [(0, .ref a), (1, .int (iI r)), (2, .int (iI (σ.2.1 86 x1))), (3, .int (iI (σ.2.1 87 x1))), (4, .int (iI i452)), (5, .int (iI i553))] [.int (iI v91)] _
      refine tn_if_ne (tgt := 162) dX5_call_157 (by decide) ⟨by omega, by omega⟩ (fun h95 => ?_) (fun h95 => ?_)
      · refine tn_aload_n dX5_call_162 rfl 0 rfl ?_
        refine tn_iload_n dX5_call_163 rfl 2 rfl ?_
        refine tn_iload_n dX5_call_164 rfl 3 rfl ?_
        refine tn_iload dX5_call_165 4 rfl ?_
        refine tn_callV (M := m_X5_call) (pc := 167) (ix := 228) (ci := 5) (M' := m_X5_listCall) (As := [.int (iI (σ.2.1 86 x1)), .int (iI (σ.2.1 87 x1)), .int (iI i452)]) (rest := []) dX5_call_167 ok_X5_listCall im_X5_listCall se_X5_listCall ml5_228 np_X5_listCall rfl rfl q59 rfl (Nat.le_of_ble_eq_true rfl) (Nat.le_of_ble_eq_true rfl) rfl (k_X5_listCall (d + 48) (T := T55) (σ := σ86) (a := a) (p1 := σ.2.1 86 x1) (p2 := σ.2.1 87 x1) (p3 := i452) q59 (by omega) (by omega) (by omega) w92 ) (fun r96 T98 σ97 gt99 hp => ?_)
        obtain ⟨rfl, rfl, w101, F102⟩ := hp
        clear gt99
        have rp103 : RP σ97 a (kp - 4 * v80 - 4 * v91) := RP.frc f90 F102 (by decide) (by decide) (by decide) (by decide) (by decide)
        show Tn _ _ 170 T55 σ97 [(0, .ref a), (1, .int (iI r)), (2, .int (iI (σ.2.1 86 x1))), (3, .int (iI (σ.2.1 87 x1))), (4, .int (iI i452)), (5, .int (iI i553))] [] _
        refine tn_aload_n dX5_call_170 rfl 0 rfl ?_
        obtain ⟨x104, hx105, hk106⟩ : ∃ x : Nat, σ54.2.1 35 a = (x : Int) ∧ (T55 x).1 = 31 := wf_35 w57 q59
        have hk106o : OB T55 x104 1 := ⟨by omega, by rw [hk106]; rfl, by omega⟩
        refine tn_getR (ci := 5) (i := 2) (n := 35) (x := x104) dX5_call_171 rfl lay_5 (by decide) fl5_47 q59 rfl rfl (rc_F F102 (Or.inl (by decide)) (by decide) (rc_F F93 (Or.inl (by decide)) (by decide) (rc_F F82 (Or.inl (by decide)) (by decide) (hx105)))) ?_
        refine tn_bipush dX5_call_174 (by decide) ?_
        refine tn_iload_n dX5_call_176 rfl 1 rfl ?_
        refine tn_iload_n dX5_call_177 rfl 2 rfl ?_
        have q112 : σ97.2.1 6 x104 = σ54.2.1 6 x104 := rc_F F102 (Or.inl (by decide)) (by decide) (rc_F F93 (Or.inl (by decide)) (by decide) (rc_F F82 (Or.inl (by decide)) (by decide) (rfl)))
        refine tn_callV (M := m_X5_call) (pc := 178) (ix := 139) (ci := 1) (M' := m_X1_append) (As := [.int (iI 10), .int (iI r), .int (iI (σ.2.1 86 x1))]) (rest := []) dX5_call_178 ok_X1_append im_X1_append se_X1_append ml5_139 np_X1_append rfl rfl hk106o rfl (Nat.le_of_ble_eq_true rfl) (Nat.le_of_ble_eq_true rfl) rfl (k_X1_append (d + 47) (T := T55) (σ := σ97) (a := x104) (k := 10) (x := r) (y := σ.2.1 86 x1) hk106o hk106 (by decide) (by omega) (by omega) w101 (RP.cnt rp103 w101 q59 (rc_F F102 (Or.inl (by decide)) (by decide) (rc_F F93 (Or.inl (by decide)) (by decide) (rc_F F82 (Or.inl (by decide)) (by decide) (hx105)))) (by omega)) (by omega)) (fun r108 T110 σ109 gt111 hp => ?_)
        obtain ⟨rfl, w115, F116, f113⟩ := hp
        replace q59 : OB T110 a 5 := gt111.ob q59
        have rp117 : RP σ109 a (kp - 4 * v80 - 4 * v91 + 1) := RP.app rp103 (rc_F F102 (Or.inl (by decide)) (by decide) (rc_F F93 (Or.inl (by decide)) (by decide) (rc_F F82 (Or.inl (by decide)) (by decide) (hx105)))) F116 (by decide) (by decide) (by decide) (by decide) f113
        show Tn _ _ 181 T110 σ109 [(0, .ref a), (1, .int (iI r)), (2, .int (iI (σ.2.1 86 x1))), (3, .int (iI (σ.2.1 87 x1))), (4, .int (iI i452)), (5, .int (iI i553))] [] _
        refine tn_iconst dX5_call_181 ?_
        refine tn_istore (L' := [(5, .int (iI 0)), (0, .ref a), (1, .int (iI r)), (2, .int (iI (σ.2.1 86 x1))), (3, .int (iI (σ.2.1 87 x1))), (4, .int (iI i452))]) dX5_call_182 (by decide) rfl ?_
        refine tn_sub [1, 0] rfl (l_X5_call_184 (d) (T := T110) (σ0 := σ109) (a := a) (kp := kp - 4 * v80 - 4 * v91 + 1) q59 w115 (by omega) (fun i5118 σ119 w122 F123 r124 f125 => ?_) _ (0) σ109 w115 FrC.rfl (by omega) rp117 rfl)
        show Tn _ _ 229 T110 σ119 [(0, .ref a), (5, .int (iI i5118))] [] _
        refine tn_iconst dX5_call_229 ?_
        exact tn_zret (v := 1) rfl (by decide) dX5_call_230 ⟨_, rfl, w122, (((((((((FrC.rfl.trans (FrC.sub F16 (by decide))).trans (FrC.sub F27 (by decide))).trans (FrC.sub F39 (by decide))).trans (FrC.sub F58 (by decide))).trans (FrC.sub (FrC.old F82 gt56) (by decide))).trans (FrC.sub (FrC.old F93 gt56) (by decide))).trans (FrC.sub (FrC.old F102 gt56) (by decide))).trans (FrC.sub (FrC.old F116 gt56) (by decide))).trans (FrC.sub (FrC.old F123 (GT.trans gt56 gt111)) (by decide))), by omega, (RP.up f125 (by omega))⟩
      · refine tn_iconst dX5_call_160 ?_
        exact tn_zret (v := 0) rfl (by decide) dX5_call_161 ⟨_, rfl, w92, ((((((FrC.rfl.trans (FrC.sub F16 (by decide))).trans (FrC.sub F27 (by decide))).trans (FrC.sub F39 (by decide))).trans (FrC.sub F58 (by decide))).trans (FrC.sub (FrC.old F82 gt56) (by decide))).trans (FrC.sub (FrC.old F93 gt56) (by decide))), by omega, (RP.up f90 (by omega))⟩
  · show Tn _ _ 142 T66 σ65 [(0, .ref a), (1, .int (iI r)), (2, .int (iI (σ.2.1 86 x1))), (3, .int (iI (σ.2.1 87 x1))), (4, .int (iI i463)), (5, .int (iI i564))] [] _
    refine tn_aload_n dX5_call_142 rfl 0 rfl ?_
    refine tn_bipush dX5_call_143 (by decide) ?_
    refine tn_callV (M := m_X5_call) (pc := 145) (ix := 102) (ci := 5) (M' := m_X5_taken) (As := [.int (iI 41)]) (rest := []) dX5_call_145 ok_X5_taken im_X5_taken se_X5_taken ml5_102 np_X5_taken rfl rfl q70 rfl (Nat.le_of_ble_eq_true rfl) (Nat.le_of_ble_eq_true rfl) rfl (k_X5_taken (d + 48) (T := T66) (σ := σ65) (a := a) (s := 41) (kp := kp) q70 (by decide) w68 (by omega) (by omega) f73) (fun r126 T128 σ127 gt129 hp => ?_)
    obtain ⟨v132, rfl, rfl, w133, F134, f130, f131⟩ := hp
    clear gt129
    show Tn _ _ 148 T66 σ127 [(0, .ref a), (1, .int (iI r)), (2, .int (iI (σ.2.1 86 x1))), (3, .int (iI (σ.2.1 87 x1))), (4, .int (iI i463)), (5, .int (iI i564))] [.int (iI v132)] _
    refine tn_if_eq (tgt := 160) dX5_call_148 (by decide) ⟨by omega, by omega⟩ (fun h136 => ?_) (fun h136 => ?_)
    · refine tn_iconst dX5_call_160 ?_
      exact tn_zret (v := 0) rfl (by decide) dX5_call_161 ⟨_, rfl, w133, (((((FrC.rfl.trans (FrC.sub F16 (by decide))).trans (FrC.sub F27 (by decide))).trans (FrC.sub F39 (by decide))).trans (FrC.sub F69 (by decide))).trans (FrC.sub (FrC.old F134 gt67) (by decide))), by omega, (RP.up f131 (by omega))⟩
    · refine tn_aload_n dX5_call_151 rfl 0 rfl ?_
      refine tn_bipush dX5_call_152 (by decide) ?_
      refine tn_callV (M := m_X5_call) (pc := 154) (ix := 102) (ci := 5) (M' := m_X5_taken) (As := [.int (iI 59)]) (rest := []) dX5_call_154 ok_X5_taken im_X5_taken se_X5_taken ml5_102 np_X5_taken rfl rfl q70 rfl (Nat.le_of_ble_eq_true rfl) (Nat.le_of_ble_eq_true rfl) rfl (k_X5_taken (d + 48) (T := T66) (σ := σ127) (a := a) (s := 59) (kp := kp - 4 * v132) q70 (by decide) w133 (by omega) (by omega) f131) (fun r137 T139 σ138 gt140 hp => ?_)
      obtain ⟨v143, rfl, rfl, w144, F145, f141, f142⟩ := hp
      clear gt140
      show Tn _ _ 157 T66 σ138 [(0, .ref a), (1, .int (iI r)), (2, .int (iI (σ.2.1 86 x1))), (3, .int (iI (σ.2.1 87 x1))), (4, .int (iI i463)), (5, .int (iI i564))] [.int (iI v143)] _
      refine tn_if_ne (tgt := 162) dX5_call_157 (by decide) ⟨by omega, by omega⟩ (fun h147 => ?_) (fun h147 => ?_)
      · refine tn_aload_n dX5_call_162 rfl 0 rfl ?_
        refine tn_iload_n dX5_call_163 rfl 2 rfl ?_
        refine tn_iload_n dX5_call_164 rfl 3 rfl ?_
        refine tn_iload dX5_call_165 4 rfl ?_
        refine tn_callV (M := m_X5_call) (pc := 167) (ix := 228) (ci := 5) (M' := m_X5_listCall) (As := [.int (iI (σ.2.1 86 x1)), .int (iI (σ.2.1 87 x1)), .int (iI i463)]) (rest := []) dX5_call_167 ok_X5_listCall im_X5_listCall se_X5_listCall ml5_228 np_X5_listCall rfl rfl q70 rfl (Nat.le_of_ble_eq_true rfl) (Nat.le_of_ble_eq_true rfl) rfl (k_X5_listCall (d + 48) (T := T66) (σ := σ138) (a := a) (p1 := σ.2.1 86 x1) (p2 := σ.2.1 87 x1) (p3 := i463) q70 (by omega) (by omega) (by omega) w144 ) (fun r148 T150 σ149 gt151 hp => ?_)
        obtain ⟨rfl, rfl, w153, F154⟩ := hp
        clear gt151
        have rp155 : RP σ149 a (kp - 4 * v132 - 4 * v143) := RP.frc f142 F154 (by decide) (by decide) (by decide) (by decide) (by decide)
        show Tn _ _ 170 T66 σ149 [(0, .ref a), (1, .int (iI r)), (2, .int (iI (σ.2.1 86 x1))), (3, .int (iI (σ.2.1 87 x1))), (4, .int (iI i463)), (5, .int (iI i564))] [] _
        refine tn_aload_n dX5_call_170 rfl 0 rfl ?_
        obtain ⟨x156, hx157, hk158⟩ : ∃ x : Nat, σ65.2.1 35 a = (x : Int) ∧ (T66 x).1 = 31 := wf_35 w68 q70
        have hk158o : OB T66 x156 1 := ⟨by omega, by rw [hk158]; rfl, by omega⟩
        refine tn_getR (ci := 5) (i := 2) (n := 35) (x := x156) dX5_call_171 rfl lay_5 (by decide) fl5_47 q70 rfl rfl (rc_F F154 (Or.inl (by decide)) (by decide) (rc_F F145 (Or.inl (by decide)) (by decide) (rc_F F134 (Or.inl (by decide)) (by decide) (hx157)))) ?_
        refine tn_bipush dX5_call_174 (by decide) ?_
        refine tn_iload_n dX5_call_176 rfl 1 rfl ?_
        refine tn_iload_n dX5_call_177 rfl 2 rfl ?_
        have q164 : σ149.2.1 6 x156 = σ65.2.1 6 x156 := rc_F F154 (Or.inl (by decide)) (by decide) (rc_F F145 (Or.inl (by decide)) (by decide) (rc_F F134 (Or.inl (by decide)) (by decide) (rfl)))
        refine tn_callV (M := m_X5_call) (pc := 178) (ix := 139) (ci := 1) (M' := m_X1_append) (As := [.int (iI 10), .int (iI r), .int (iI (σ.2.1 86 x1))]) (rest := []) dX5_call_178 ok_X1_append im_X1_append se_X1_append ml5_139 np_X1_append rfl rfl hk158o rfl (Nat.le_of_ble_eq_true rfl) (Nat.le_of_ble_eq_true rfl) rfl (k_X1_append (d + 47) (T := T66) (σ := σ149) (a := x156) (k := 10) (x := r) (y := σ.2.1 86 x1) hk158o hk158 (by decide) (by omega) (by omega) w153 (RP.cnt rp155 w153 q70 (rc_F F154 (Or.inl (by decide)) (by decide) (rc_F F145 (Or.inl (by decide)) (by decide) (rc_F F134 (Or.inl (by decide)) (by decide) (hx157)))) (by omega)) (by omega)) (fun r160 T162 σ161 gt163 hp => ?_)
        obtain ⟨rfl, w167, F168, f165⟩ := hp
        replace q70 : OB T162 a 5 := gt163.ob q70
        have rp169 : RP σ161 a (kp - 4 * v132 - 4 * v143 + 1) := RP.app rp155 (rc_F F154 (Or.inl (by decide)) (by decide) (rc_F F145 (Or.inl (by decide)) (by decide) (rc_F F134 (Or.inl (by decide)) (by decide) (hx157)))) F168 (by decide) (by decide) (by decide) (by decide) f165
        show Tn _ _ 181 T162 σ161 [(0, .ref a), (1, .int (iI r)), (2, .int (iI (σ.2.1 86 x1))), (3, .int (iI (σ.2.1 87 x1))), (4, .int (iI i463)), (5, .int (iI i564))] [] _
        refine tn_iconst dX5_call_181 ?_
        refine tn_istore (L' := [(5, .int (iI 0)), (0, .ref a), (1, .int (iI r)), (2, .int (iI (σ.2.1 86 x1))), (3, .int (iI (σ.2.1 87 x1))), (4, .int (iI i463))]) dX5_call_182 (by decide) rfl ?_
        refine tn_sub [1, 0] rfl (l_X5_call_184 (d) (T := T162) (σ0 := σ161) (a := a) (kp := kp - 4 * v132 - 4 * v143 + 1) q70 w167 (by omega) (fun i5170 σ171 w174 F175 r176 f177 => ?_) _ (0) σ161 w167 FrC.rfl (by omega) rp169 rfl)
        show Tn _ _ 229 T162 σ171 [(0, .ref a), (5, .int (iI i5170))] [] _
        refine tn_iconst dX5_call_229 ?_
        exact tn_zret (v := 1) rfl (by decide) dX5_call_230 ⟨_, rfl, w174, (((((((((FrC.rfl.trans (FrC.sub F16 (by decide))).trans (FrC.sub F27 (by decide))).trans (FrC.sub F39 (by decide))).trans (FrC.sub F69 (by decide))).trans (FrC.sub (FrC.old F134 gt67) (by decide))).trans (FrC.sub (FrC.old F145 gt67) (by decide))).trans (FrC.sub (FrC.old F154 gt67) (by decide))).trans (FrC.sub (FrC.old F168 gt67) (by decide))).trans (FrC.sub (FrC.old F175 (GT.trans gt67 gt163)) (by decide))), by omega, (RP.up f177 (by omega))⟩
      · refine tn_iconst dX5_call_160 ?_
        exact tn_zret (v := 0) rfl (by decide) dX5_call_161 ⟨_, rfl, w144, ((((((FrC.rfl.trans (FrC.sub F16 (by decide))).trans (FrC.sub F27 (by decide))).trans (FrC.sub F39 (by decide))).trans (FrC.sub F69 (by decide))).trans (FrC.sub (FrC.old F134 gt67) (by decide))).trans (FrC.sub (FrC.old F145 gt67) (by decide))), by omega, (RP.up f142 (by omega))⟩
end
section
theorem cd_X5_assignment : Cond.code yX5_assignment cX5_assignment 3 (some .boolean) ∈ pWW := pw3 (List.mem_of_getElem? (i := 124) rfl) rfl
abbrev m_X5_assignment : MT := (yX5_assignment, cX5_assignment, 3, (some .boolean))
theorem ok_X5_assignment : pOk m_X5_assignment := ⟨⟨cd_X5_assignment, ini_5⟩, by decide +kernel, ⟨by decide +kernel, by decide +kernel⟩, Nat.le_of_ble_eq_true rfl⟩
theorem np_X5_assignment : (parseMethodDescriptor yX5_assignment.desc).map (fun d => d.parameters.length) = some 0 := by decide +kernel
theorem im_X5_assignment : Cond.instanceMethod yX5_assignment ∈ pWW := pw3 (List.mem_of_getElem? (i := 123) rfl) rfl
theorem se_X5_assignment : Cond.selects RX5 yX5_assignment yX5_assignment ∈ pWW := pws (List.mem_map.mpr ⟨_, lw_pin 16 rfl, rfl⟩) rfl
theorem fl5_64 : Cond.fieldLink RX5 64 (TX5 12).1 (TX5 12).2.1 (TX5 12).2.2.1 ∈ pWW := pw1 (List.mem_of_getElem? (i := 168) rfl) rfl
theorem ml5_207 : Cond.methodLink RX5 207 yX5_setting ∈ pWW := pw3 (List.mem_of_getElem? (i := 194) rfl) rfl
theorem fl5_146 : Cond.fieldLink RX5 146 (TX1 1).1 (TX1 1).2.1 (TX1 1).2.2.1 ∈ pWW := pw1 (List.mem_of_getElem? (i := 86) rfl) rfl
theorem ml5_210 : Cond.methodLink RX5 210 yX1_setWhere ∈ pWW := pw3 (List.mem_of_getElem? (i := 198) rfl) rfl
theorem ml5_201 : Cond.methodLink RX5 201 yX9_nextIs ∈ pWW := pw3 (List.mem_of_getElem? (i := 150) rfl) rfl
theorem ml5_204 : Cond.methodLink RX5 204 yX5_call ∈ pWW := pw3 (List.mem_of_getElem? (i := 155) rfl) rfl
theorem dX5_assignment_0 : decode cX5_assignment 0 = .ok (.aload_n 0, 1) := by decide +kernel
theorem dX5_assignment_1 : decode cX5_assignment 1 = .ok (.getfield 47, 3) := by decide +kernel
theorem dX5_assignment_4 : decode cX5_assignment 4 = .ok (.bipush 11, 2) := by decide +kernel
theorem dX5_assignment_6 : decode cX5_assignment 6 = .ok (.aload_n 0, 1) := by decide +kernel
theorem dX5_assignment_7 : decode cX5_assignment 7 = .ok (.getfield 64, 3) := by decide +kernel
theorem dX5_assignment_10 : decode cX5_assignment 10 = .ok (.iconst 0, 1) := by decide +kernel
theorem dX5_assignment_11 : decode cX5_assignment 11 = .ok (.invokevirtual 139, 3) := by decide +kernel
theorem dX5_assignment_14 : decode cX5_assignment 14 = .ok (.aload_n 0, 1) := by decide +kernel
theorem dX5_assignment_15 : decode cX5_assignment 15 = .ok (.invokevirtual 176, 3) := by decide +kernel
theorem dX5_assignment_18 : decode cX5_assignment 18 = .ok (.istore_n 1, 1) := by decide +kernel
theorem dX5_assignment_19 : decode cX5_assignment 19 = .ok (.aload_n 0, 1) := by decide +kernel
theorem dX5_assignment_20 : decode cX5_assignment 20 = .ok (.getfield 12, 3) := by decide +kernel
theorem dX5_assignment_23 : decode cX5_assignment 23 = .ok (.invokevirtual 93, 3) := by decide +kernel
theorem dX5_assignment_26 : decode cX5_assignment 26 = .ok (.aload_n 0, 1) := by decide +kernel
theorem dX5_assignment_27 : decode cX5_assignment 27 = .ok (.bipush 61, 2) := by decide +kernel
theorem dX5_assignment_29 : decode cX5_assignment 29 = .ok (.invokevirtual 102, 3) := by decide +kernel
theorem dX5_assignment_32 : decode cX5_assignment 32 = .ok (.ifCond .ne 5, 3) := by decide +kernel
theorem dX5_assignment_37 : decode cX5_assignment 37 = .ok (.aload_n 0, 1) := by decide +kernel
theorem dX5_assignment_38 : decode cX5_assignment 38 = .ok (.getfield 12, 3) := by decide +kernel
theorem dX5_assignment_41 : decode cX5_assignment 41 = .ok (.getfield 71, 3) := by decide +kernel
theorem dX5_assignment_44 : decode cX5_assignment 44 = .ok (.sipush 256, 3) := by decide +kernel
theorem dX5_assignment_47 : decode cX5_assignment 47 = .ok (.if_icmp .ne 23, 3) := by decide +kernel
theorem dX5_assignment_70 : decode cX5_assignment 70 = .ok (.aload_n 0, 1) := by decide +kernel
theorem dX5_assignment_71 : decode cX5_assignment 71 = .ok (.iload_n 1, 1) := by decide +kernel
theorem dX5_assignment_72 : decode cX5_assignment 72 = .ok (.invokevirtual 207, 3) := by decide +kernel
theorem dX5_assignment_75 : decode cX5_assignment 75 = .ok (.istore_n 2, 1) := by decide +kernel
theorem dX5_assignment_76 : decode cX5_assignment 76 = .ok (.aload_n 0, 1) := by decide +kernel
theorem dX5_assignment_77 : decode cX5_assignment 77 = .ok (.getfield 47, 3) := by decide +kernel
theorem dX5_assignment_80 : decode cX5_assignment 80 = .ok (.bipush 12, 2) := by decide +kernel
theorem dX5_assignment_82 : decode cX5_assignment 82 = .ok (.iload_n 1, 1) := by decide +kernel
theorem dX5_assignment_83 : decode cX5_assignment 83 = .ok (.iconst 0, 1) := by decide +kernel
theorem dX5_assignment_84 : decode cX5_assignment 84 = .ok (.invokevirtual 139, 3) := by decide +kernel
theorem dX5_assignment_87 : decode cX5_assignment 87 = .ok (.aload_n 0, 1) := by decide +kernel
theorem dX5_assignment_88 : decode cX5_assignment 88 = .ok (.getfield 47, 3) := by decide +kernel
theorem dX5_assignment_91 : decode cX5_assignment 91 = .ok (.aload_n 0, 1) := by decide +kernel
theorem dX5_assignment_92 : decode cX5_assignment 92 = .ok (.getfield 47, 3) := by decide +kernel
theorem dX5_assignment_95 : decode cX5_assignment 95 = .ok (.getfield 146, 3) := by decide +kernel
theorem dX5_assignment_98 : decode cX5_assignment 98 = .ok (.iconst 1, 1) := by decide +kernel
theorem dX5_assignment_99 : decode cX5_assignment 99 = .ok (.isub, 1) := by decide +kernel
theorem dX5_assignment_100 : decode cX5_assignment 100 = .ok (.iconst 2, 1) := by decide +kernel
theorem dX5_assignment_101 : decode cX5_assignment 101 = .ok (.iload_n 1, 1) := by decide +kernel
theorem dX5_assignment_102 : decode cX5_assignment 102 = .ok (.invokevirtual 210, 3) := by decide +kernel
theorem dX5_assignment_105 : decode cX5_assignment 105 = .ok (.iload_n 2, 1) := by decide +kernel
theorem dX5_assignment_106 : decode cX5_assignment 106 = .ok (.ireturn, 1) := by decide +kernel
theorem dX5_assignment_50 : decode cX5_assignment 50 = .ok (.aload_n 0, 1) := by decide +kernel
theorem dX5_assignment_51 : decode cX5_assignment 51 = .ok (.getfield 12, 3) := by decide +kernel
theorem dX5_assignment_54 : decode cX5_assignment 54 = .ok (.bipush 40, 2) := by decide +kernel
theorem dX5_assignment_56 : decode cX5_assignment 56 = .ok (.invokevirtual 201, 3) := by decide +kernel
theorem dX5_assignment_59 : decode cX5_assignment 59 = .ok (.ifCond .eq 11, 3) := by decide +kernel
theorem dX5_assignment_62 : decode cX5_assignment 62 = .ok (.aload_n 0, 1) := by decide +kernel
theorem dX5_assignment_63 : decode cX5_assignment 63 = .ok (.iload_n 1, 1) := by decide +kernel
theorem dX5_assignment_64 : decode cX5_assignment 64 = .ok (.invokevirtual 204, 3) := by decide +kernel
theorem dX5_assignment_67 : decode cX5_assignment 67 = .ok (.goto 8, 3) := by decide +kernel
theorem dX5_assignment_35 : decode cX5_assignment 35 = .ok (.iconst 0, 1) := by decide +kernel
theorem dX5_assignment_36 : decode cX5_assignment 36 = .ok (.ireturn, 1) := by decide +kernel
set_option maxRecDepth 20000 in
theorem k_X5_assignment (d : Nat) {T : CT} {σ : MS} {a : Nat} {kp : Int} (ha : OB T a 5) (hw : WT T σ) (hkp : kp ≤ 140) (hrp : RP σ a kp) : Tn (d + 52) m_X5_assignment 0 T σ [(0, .ref a)] [] (fun ro T2 σ2 => ∃ v : Int, ro = some (.int (iI v)) ∧ WT T2 σ2 ∧ FrC T [5, 6, 7, 42, 43, 44, 47, 50, 51, 84, 85, 86, 87, 518, 519, 520, 521] σ σ2 ∧ (v = 0 ∨ v = 1) ∧ (RP σ2 a (kp + 1 - 10 * v))) := by
  refine tn_aload_n dX5_assignment_0 rfl 0 rfl ?_
  obtain ⟨x1, hx2, hk3⟩ : ∃ x : Nat, σ.2.1 35 a = (x : Int) ∧ (T x).1 = 31 := wf_35 hw ha
  have hk3o : OB T x1 1 := ⟨by omega, by rw [hk3]; rfl, by omega⟩
  refine tn_getR (ci := 5) (i := 2) (n := 35) (x := x1) dX5_assignment_1 rfl lay_5 (by decide) fl5_47 ha rfl rfl (hx2) ?_
  refine tn_bipush dX5_assignment_4 (by decide) ?_
  refine tn_aload_n dX5_assignment_6 rfl 0 rfl ?_
  refine tn_getI (ci := 5) (i := 12) (n := 45) (t := σ.2.1 45 a) dX5_assignment_7 rfl lay_5 (by decide) fl5_64 ha rfl rfl (rfl) ?_
  have g5 : ((-2147483648 : Int) ≤ σ.2.1 45 a ∧ σ.2.1 45 a ≤ 2147483647) := wf_45 hw ha
  refine tn_iconst dX5_assignment_10 ?_
  refine tn_callV (M := m_X5_assignment) (pc := 11) (ix := 139) (ci := 1) (M' := m_X1_append) (As := [.int (iI 11), .int (iI (σ.2.1 45 a)), .int (iI 0)]) (rest := []) dX5_assignment_11 ok_X1_append im_X1_append se_X1_append ml5_139 np_X1_append rfl rfl hk3o rfl (Nat.le_of_ble_eq_true rfl) (Nat.le_of_ble_eq_true rfl) rfl (k_X1_append (d + 48) (T := T) (σ := σ) (a := x1) (k := 11) (x := σ.2.1 45 a) (y := 0) hk3o hk3 (by decide) (by omega) (by decide) hw (RP.cnt hrp hw ha (hx2) (by omega)) (by omega)) (fun r6 T8 σ7 gt9 hp => ?_)
  obtain ⟨rfl, w12, F13, f10⟩ := hp
  replace ha : OB T8 a 5 := gt9.ob ha
  have rp14 : RP σ7 a (kp + 1) := RP.app hrp (hx2) F13 (by decide) (by decide) (by decide) (by decide) f10
  show Tn _ _ 14 T8 σ7 [(0, .ref a)] [] _
  refine tn_aload_n dX5_assignment_14 rfl 0 rfl ?_
  refine tn_callV (M := m_X5_assignment) (pc := 15) (ix := 176) (ci := 5) (M' := m_X5_register) (As := []) (rest := []) dX5_assignment_15 ok_X5_register im_X5_register se_X5_register ml5_176 np_X5_register rfl rfl ha rfl (Nat.le_of_ble_eq_true rfl) (Nat.le_of_ble_eq_true rfl) rfl (k_X5_register (d + 49) (T := T8) (σ := σ7) (a := a) ha w12 ) (fun r15 T17 σ16 gt18 hp => ?_)
  obtain ⟨v20, rfl, rfl, w21, F22, f19⟩ := hp
  clear gt18
  have rp23 : RP σ16 a (kp + 1) := RP.frc rp14 F22 (by decide) (by decide) (by decide) (by decide) (by decide)
  show Tn _ _ 18 T8 σ16 [(0, .ref a)] [.int (iI v20)] _
  refine tn_istore_n (L' := [(1, .int (iI v20)), (0, .ref a)]) dX5_assignment_18 rfl (by decide) rfl ?_
  refine tn_aload_n dX5_assignment_19 rfl 1 rfl ?_
  obtain ⟨x24, hx25, hk26⟩ : ∃ x : Nat, σ7.2.1 33 a = (x : Int) ∧ (T8 x).1 = 39 := wf_33 w12 ha
  have hk26o : OB T8 x24 9 := ⟨by omega, by rw [hk26]; rfl, by omega⟩
  refine tn_getR (ci := 5) (i := 0) (n := 33) (x := x24) dX5_assignment_20 rfl lay_5 (by decide) fl5_12 ha rfl rfl (rc_F F22 (Or.inl (by decide)) (by decide) (hx25)) ?_
  have q32 : σ16.2.1 84 x24 = σ7.2.1 84 x24 := rc_F F22 (Or.inl (by decide)) (by decide) (rfl)
  refine tn_callV (M := m_X5_assignment) (pc := 23) (ix := 93) (ci := 9) (M' := m_X9_next) (As := []) (rest := []) dX5_assignment_23 ok_X9_next im_X9_next se_X9_next ml5_93 np_X9_next rfl rfl hk26o rfl (Nat.le_of_ble_eq_true rfl) (Nat.le_of_ble_eq_true rfl) rfl (k_X9_next (d + 50) (T := T8) (σ := σ16) (a := x24) hk26o w21 (RP.tk rp23 w21 ha (rc_F F22 (Or.inl (by decide)) (by decide) (hx25)))) (fun r28 T30 σ29 gt31 hp => ?_)
  obtain ⟨rfl, rfl, w37, F38, f33, f34, f35⟩ := hp
  clear gt31
  have rp39 : RP σ29 a (kp + 1) := RP.next rp23 (rc_F F22 (Or.inl (by decide)) (by decide) (hx25)) F38 (by decide) (by decide) (by decide) f33 f34
  show Tn _ _ 26 T8 σ29 [(1, .int (iI v20)), (0, .ref a)] [] _
  refine tn_aload_n dX5_assignment_26 rfl 1 rfl ?_
  refine tn_bipush dX5_assignment_27 (by decide) ?_
  refine tn_callV (M := m_X5_assignment) (pc := 29) (ix := 102) (ci := 5) (M' := m_X5_taken) (As := [.int (iI 61)]) (rest := []) dX5_assignment_29 ok_X5_taken im_X5_taken se_X5_taken ml5_102 np_X5_taken rfl rfl ha rfl (Nat.le_of_ble_eq_true rfl) (Nat.le_of_ble_eq_true rfl) rfl (k_X5_taken (d + 49) (T := T8) (σ := σ29) (a := a) (s := 61) (kp := kp + 1) ha (by decide) w37 (by omega) (by omega) rp39) (fun r40 T42 σ41 gt43 hp => ?_)
  obtain ⟨v46, rfl, rfl, w47, F48, f44, f45⟩ := hp
  clear gt43
  have rp50 : RP σ41 a (kp - 4 * v46 + 1) := RP.up f45 (by omega)
  show Tn _ _ 32 T8 σ41 [(1, .int (iI v20)), (0, .ref a)] [.int (iI v46)] _
  refine tn_if_ne (tgt := 37) dX5_assignment_32 (by decide) ⟨by omega, by omega⟩ (fun h51 => ?_) (fun h51 => ?_)
  · refine tn_aload_n dX5_assignment_37 rfl 1 rfl ?_
    refine tn_getR (ci := 5) (i := 0) (n := 33) (x := x24) dX5_assignment_38 rfl lay_5 (by decide) fl5_12 ha rfl rfl (rc_F F48 (Or.inl (by decide)) (by decide) (rc_F F38 (Or.inl (by decide)) (by decide) (rc_F F22 (Or.inl (by decide)) (by decide) (hx25)))) ?_
    refine tn_getI (ci := 9) (i := 4) (n := 85) (t := σ41.2.1 85 x24) dX5_assignment_41 rfl lay_9 (by decide) fl5_71 hk26o rfl rfl (rfl) ?_
    have g52 : ((-2147483648 : Int) ≤ σ41.2.1 85 x24 ∧ σ41.2.1 85 x24 ≤ 2147483647) := wf_85 w47 hk26o
    refine tn_sipush dX5_assignment_44 (by decide) ?_
    refine tn_icmp_ne (tgt := 70) dX5_assignment_47 (by decide) ⟨by omega, by omega⟩ ⟨by decide, by decide⟩ (fun h53 => ?_) (fun h53 => ?_)
    · refine tn_aload_n dX5_assignment_70 rfl 1 rfl ?_
      refine tn_iload_n dX5_assignment_71 rfl 0 rfl ?_
      refine tn_callV (M := m_X5_assignment) (pc := 72) (ix := 207) (ci := 5) (M' := m_X5_setting) (As := [.int (iI v20)]) (rest := []) dX5_assignment_72 ok_X5_setting im_X5_setting se_X5_setting ml5_207 np_X5_setting rfl rfl ha rfl (Nat.le_of_ble_eq_true rfl) (Nat.le_of_ble_eq_true rfl) rfl (k_X5_setting (d) (T := T8) (σ := σ41) (a := a) (r := v20) (kp := kp - 4 * v46 + 1) ha (by omega) w47 (by omega) rp50) (fun r54 T56 σ55 gt57 hp => ?_)
      obtain ⟨v60, rfl, w61, F62, f58, f59⟩ := hp
      replace ha : OB T56 a 5 := gt57.ob ha
      have rp64 : RP σ55 a (kp - 4 * v46 - 7 * v60 + 1) := RP.up f59 (by omega)
      show Tn _ _ 75 T56 σ55 [(1, .int (iI v20)), (0, .ref a)] [.int (iI v60)] _
      refine tn_istore_n (L' := [(2, .int (iI v60)), (1, .int (iI v20)), (0, .ref a)]) dX5_assignment_75 rfl (by decide) rfl ?_
      refine tn_aload_n dX5_assignment_76 rfl 2 rfl ?_
      obtain ⟨x65, hx66, hk67⟩ : ∃ x : Nat, σ55.2.1 35 a = (x : Int) ∧ (T56 x).1 = 31 := wf_35 w61 ha
      have hk67o : OB T56 x65 1 := ⟨by omega, by rw [hk67]; rfl, by omega⟩
      refine tn_getR (ci := 5) (i := 2) (n := 35) (x := x65) dX5_assignment_77 rfl lay_5 (by decide) fl5_47 ha rfl rfl (hx66) ?_
      refine tn_bipush dX5_assignment_80 (by decide) ?_
      refine tn_iload_n dX5_assignment_82 rfl 1 rfl ?_
      refine tn_iconst dX5_assignment_83 ?_
      refine tn_callV (M := m_X5_assignment) (pc := 84) (ix := 139) (ci := 1) (M' := m_X1_append) (As := [.int (iI 12), .int (iI v20), .int (iI 0)]) (rest := []) dX5_assignment_84 ok_X1_append im_X1_append se_X1_append ml5_139 np_X1_append rfl rfl hk67o rfl (Nat.le_of_ble_eq_true rfl) (Nat.le_of_ble_eq_true rfl) rfl (k_X1_append (d + 48) (T := T56) (σ := σ55) (a := x65) (k := 12) (x := v20) (y := 0) hk67o hk67 (by decide) (by omega) (by decide) w61 (RP.cnt rp64 w61 ha (hx66) (by omega)) (by omega)) (fun r69 T71 σ70 gt72 hp => ?_)
      obtain ⟨rfl, w75, F76, f73⟩ := hp
      replace ha : OB T71 a 5 := gt72.ob ha
      have rp77 : RP σ70 a (kp - 4 * v46 - 7 * v60 + 1 + 1) := RP.app rp64 (hx66) F76 (by decide) (by decide) (by decide) (by decide) f73
      have rp78 : RP σ70 a (kp - 4 * v46 - 7 * v60 + 2) := RP.up rp77 (by omega)
      show Tn _ _ 87 T71 σ70 [(2, .int (iI v60)), (1, .int (iI v20)), (0, .ref a)] [] _
      refine tn_aload_n dX5_assignment_87 rfl 2 rfl ?_
      obtain ⟨x79, hx80, hk81⟩ : ∃ x : Nat, σ70.2.1 35 a = (x : Int) ∧ (T71 x).1 = 31 := wf_35 w75 ha
      have hk81o : OB T71 x79 1 := ⟨by omega, by rw [hk81]; rfl, by omega⟩
      refine tn_getR (ci := 5) (i := 2) (n := 35) (x := x79) dX5_assignment_88 rfl lay_5 (by decide) fl5_47 ha rfl rfl (hx80) ?_
      refine tn_aload_n dX5_assignment_91 rfl 2 rfl ?_
      refine tn_getR (ci := 5) (i := 2) (n := 35) (x := x79) dX5_assignment_92 rfl lay_5 (by decide) fl5_47 ha rfl rfl (hx80) ?_
      refine tn_getI (ci := 1) (i := 1) (n := 6) (t := σ70.2.1 6 x79) dX5_assignment_95 rfl lay_1 (by decide) fl5_146 hk81o rfl rfl (rfl) ?_
      have g83 : ((0 : Int) ≤ σ70.2.1 6 x79 ∧ σ70.2.1 6 x79 ≤ 5000) ∧ ((T71 x79).1 = 50 → σ70.2.1 6 x79 ≤ 200) := wf_6 w75 hk81o
      have g83x := g83.2
      replace g83 := g83.1
      clear g83x
      refine tn_iconst dX5_assignment_98 ?_
      refine tn_isub dX5_assignment_99 ?_
      refine tn_iconst dX5_assignment_100 ?_
      refine tn_iload_n dX5_assignment_101 rfl 1 rfl ?_
      refine tn_callV (M := m_X5_assignment) (pc := 102) (ix := 210) (ci := 1) (M' := m_X1_setWhere) (As := [.int (iI ((σ70.2.1 6 x79) - 1)), .int (iI 2), .int (iI v20)]) (rest := []) dX5_assignment_102 ok_X1_setWhere im_X1_setWhere se_X1_setWhere ml5_210 np_X1_setWhere rfl rfl hk81o rfl (Nat.le_of_ble_eq_true rfl) (Nat.le_of_ble_eq_true rfl) rfl (k_X1_setWhere (d + 49) (T := T71) (σ := σ70) (a := x79) (k := (σ70.2.1 6 x79) - 1) (y := 2) (z := v20) hk81o (by omega) (by decide) (by omega) w75 ) (fun r84 T86 σ85 gt87 hp => ?_)
      obtain ⟨rfl, rfl, w89, F90⟩ := hp
      clear gt87
      have rp91 : RP σ85 a (kp - 4 * v46 - 7 * v60 + 2) := RP.frc rp78 F90 (by decide) (by decide) (by decide) (by decide) (by decide)
      show Tn _ _ 105 T71 σ85 [(2, .int (iI v60)), (1, .int (iI v20)), (0, .ref a)] [] _
      refine tn_iload_n dX5_assignment_105 rfl 0 rfl ?_
      exact tn_zret (v := v60) rfl (by omega) dX5_assignment_106 ⟨_, rfl, w89, (((((((FrC.rfl.trans (FrC.sub F13 (by decide))).trans (FrC.sub (FrC.old F22 gt9) (by decide))).trans (FrC.sub (FrC.old F38 gt9) (by decide))).trans (FrC.sub (FrC.old F48 gt9) (by decide))).trans (FrC.sub (FrC.old F62 gt9) (by decide))).trans (FrC.sub (FrC.old F76 (GT.trans gt9 gt57)) (by decide))).trans (FrC.sub (FrC.old F90 (GT.trans (GT.trans gt9 gt57) gt72)) (by decide))), by omega, (RP.up rp91 (by omega))⟩
    · refine tn_aload_n dX5_assignment_50 rfl 1 rfl ?_
      refine tn_getR (ci := 5) (i := 0) (n := 33) (x := x24) dX5_assignment_51 rfl lay_5 (by decide) fl5_12 ha rfl rfl (rc_F F48 (Or.inl (by decide)) (by decide) (rc_F F38 (Or.inl (by decide)) (by decide) (rc_F F22 (Or.inl (by decide)) (by decide) (hx25)))) ?_
      refine tn_bipush dX5_assignment_54 (by decide) ?_
      refine tn_callV (M := m_X5_assignment) (pc := 56) (ix := 201) (ci := 9) (M' := m_X9_nextIs) (As := [.int (iI 40)]) (rest := []) dX5_assignment_56 ok_X9_nextIs im_X9_nextIs se_X9_nextIs ml5_201 np_X9_nextIs rfl rfl hk26o rfl (Nat.le_of_ble_eq_true rfl) (Nat.le_of_ble_eq_true rfl) rfl (k_X9_nextIs (d + 49) (T := T8) (σ := σ41) (a := x24) (p1 := 40) hk26o (by decide) w47 ) (fun r92 T94 σ93 gt95 hp => ?_)
      obtain ⟨v97, rfl, rfl, rfl, f96⟩ := hp
      clear gt95
      show Tn _ _ 59 T8 σ41 [(1, .int (iI v20)), (0, .ref a)] [.int (iI v97)] _
      refine tn_if_eq (tgt := 70) dX5_assignment_59 (by decide) ⟨by omega, by omega⟩ (fun h98 => ?_) (fun h98 => ?_)
      · refine tn_aload_n dX5_assignment_70 rfl 1 rfl ?_
        refine tn_iload_n dX5_assignment_71 rfl 0 rfl ?_
        refine tn_callV (M := m_X5_assignment) (pc := 72) (ix := 207) (ci := 5) (M' := m_X5_setting) (As := [.int (iI v20)]) (rest := []) dX5_assignment_72 ok_X5_setting im_X5_setting se_X5_setting ml5_207 np_X5_setting rfl rfl ha rfl (Nat.le_of_ble_eq_true rfl) (Nat.le_of_ble_eq_true rfl) rfl (k_X5_setting (d) (T := T8) (σ := σ41) (a := a) (r := v20) (kp := kp - 4 * v46 + 1) ha (by omega) w47 (by omega) rp50) (fun r99 T101 σ100 gt102 hp => ?_)
        obtain ⟨v105, rfl, w106, F107, f103, f104⟩ := hp
        replace ha : OB T101 a 5 := gt102.ob ha
        have rp109 : RP σ100 a (kp - 4 * v46 - 7 * v105 + 1) := RP.up f104 (by omega)
        show Tn _ _ 75 T101 σ100 [(1, .int (iI v20)), (0, .ref a)] [.int (iI v105)] _
        refine tn_istore_n (L' := [(2, .int (iI v105)), (1, .int (iI v20)), (0, .ref a)]) dX5_assignment_75 rfl (by decide) rfl ?_
        refine tn_aload_n dX5_assignment_76 rfl 2 rfl ?_
        obtain ⟨x110, hx111, hk112⟩ : ∃ x : Nat, σ100.2.1 35 a = (x : Int) ∧ (T101 x).1 = 31 := wf_35 w106 ha
        have hk112o : OB T101 x110 1 := ⟨by omega, by rw [hk112]; rfl, by omega⟩
        refine tn_getR (ci := 5) (i := 2) (n := 35) (x := x110) dX5_assignment_77 rfl lay_5 (by decide) fl5_47 ha rfl rfl (hx111) ?_
        refine tn_bipush dX5_assignment_80 (by decide) ?_
        refine tn_iload_n dX5_assignment_82 rfl 1 rfl ?_
        refine tn_iconst dX5_assignment_83 ?_
        refine tn_callV (M := m_X5_assignment) (pc := 84) (ix := 139) (ci := 1) (M' := m_X1_append) (As := [.int (iI 12), .int (iI v20), .int (iI 0)]) (rest := []) dX5_assignment_84 ok_X1_append im_X1_append se_X1_append ml5_139 np_X1_append rfl rfl hk112o rfl (Nat.le_of_ble_eq_true rfl) (Nat.le_of_ble_eq_true rfl) rfl (k_X1_append (d + 48) (T := T101) (σ := σ100) (a := x110) (k := 12) (x := v20) (y := 0) hk112o hk112 (by decide) (by omega) (by decide) w106 (RP.cnt rp109 w106 ha (hx111) (by omega)) (by omega)) (fun r114 T116 σ115 gt117 hp => ?_)
        obtain ⟨rfl, w120, F121, f118⟩ := hp
        replace ha : OB T116 a 5 := gt117.ob ha
        have rp122 : RP σ115 a (kp - 4 * v46 - 7 * v105 + 1 + 1) := RP.app rp109 (hx111) F121 (by decide) (by decide) (by decide) (by decide) f118
        have rp123 : RP σ115 a (kp - 4 * v46 - 7 * v105 + 2) := RP.up rp122 (by omega)
        show Tn _ _ 87 T116 σ115 [(2, .int (iI v105)), (1, .int (iI v20)), (0, .ref a)] [] _
        refine tn_aload_n dX5_assignment_87 rfl 2 rfl ?_
        obtain ⟨x124, hx125, hk126⟩ : ∃ x : Nat, σ115.2.1 35 a = (x : Int) ∧ (T116 x).1 = 31 := wf_35 w120 ha
        have hk126o : OB T116 x124 1 := ⟨by omega, by rw [hk126]; rfl, by omega⟩
        refine tn_getR (ci := 5) (i := 2) (n := 35) (x := x124) dX5_assignment_88 rfl lay_5 (by decide) fl5_47 ha rfl rfl (hx125) ?_
        refine tn_aload_n dX5_assignment_91 rfl 2 rfl ?_
        refine tn_getR (ci := 5) (i := 2) (n := 35) (x := x124) dX5_assignment_92 rfl lay_5 (by decide) fl5_47 ha rfl rfl (hx125) ?_
        refine tn_getI (ci := 1) (i := 1) (n := 6) (t := σ115.2.1 6 x124) dX5_assignment_95 rfl lay_1 (by decide) fl5_146 hk126o rfl rfl (rfl) ?_
        have g128 : ((0 : Int) ≤ σ115.2.1 6 x124 ∧ σ115.2.1 6 x124 ≤ 5000) ∧ ((T116 x124).1 = 50 → σ115.2.1 6 x124 ≤ 200) := wf_6 w120 hk126o
        have g128x := g128.2
        replace g128 := g128.1
        clear g128x
        refine tn_iconst dX5_assignment_98 ?_
        refine tn_isub dX5_assignment_99 ?_
        refine tn_iconst dX5_assignment_100 ?_
        refine tn_iload_n dX5_assignment_101 rfl 1 rfl ?_
        refine tn_callV (M := m_X5_assignment) (pc := 102) (ix := 210) (ci := 1) (M' := m_X1_setWhere) (As := [.int (iI ((σ115.2.1 6 x124) - 1)), .int (iI 2), .int (iI v20)]) (rest := []) dX5_assignment_102 ok_X1_setWhere im_X1_setWhere se_X1_setWhere ml5_210 np_X1_setWhere rfl rfl hk126o rfl (Nat.le_of_ble_eq_true rfl) (Nat.le_of_ble_eq_true rfl) rfl (k_X1_setWhere (d + 49) (T := T116) (σ := σ115) (a := x124) (k := (σ115.2.1 6 x124) - 1) (y := 2) (z := v20) hk126o (by omega) (by decide) (by omega) w120 ) (fun r129 T131 σ130 gt132 hp => ?_)
        obtain ⟨rfl, rfl, w134, F135⟩ := hp
        clear gt132
        have rp136 : RP σ130 a (kp - 4 * v46 - 7 * v105 + 2) := RP.frc rp123 F135 (by decide) (by decide) (by decide) (by decide) (by decide)
        show Tn _ _ 105 T116 σ130 [(2, .int (iI v105)), (1, .int (iI v20)), (0, .ref a)] [] _
        refine tn_iload_n dX5_assignment_105 rfl 0 rfl ?_
        exact tn_zret (v := v105) rfl (by omega) dX5_assignment_106 ⟨_, rfl, w134, (((((((FrC.rfl.trans (FrC.sub F13 (by decide))).trans (FrC.sub (FrC.old F22 gt9) (by decide))).trans (FrC.sub (FrC.old F38 gt9) (by decide))).trans (FrC.sub (FrC.old F48 gt9) (by decide))).trans (FrC.sub (FrC.old F107 gt9) (by decide))).trans (FrC.sub (FrC.old F121 (GT.trans gt9 gt102)) (by decide))).trans (FrC.sub (FrC.old F135 (GT.trans (GT.trans gt9 gt102) gt117)) (by decide))), by omega, (RP.up rp136 (by omega))⟩
      · refine tn_aload_n dX5_assignment_62 rfl 1 rfl ?_
        refine tn_iload_n dX5_assignment_63 rfl 0 rfl ?_
        refine tn_callV (M := m_X5_assignment) (pc := 64) (ix := 204) (ci := 5) (M' := m_X5_call) (As := [.int (iI v20)]) (rest := []) dX5_assignment_64 ok_X5_call im_X5_call se_X5_call ml5_204 np_X5_call rfl rfl ha rfl (Nat.le_of_ble_eq_true rfl) (Nat.le_of_ble_eq_true rfl) rfl (k_X5_call (d) (T := T8) (σ := σ41) (a := a) (r := v20) (kp := kp - 4 * v46 + 1) ha (by omega) w47 (by omega) rp50) (fun r137 T139 σ138 gt140 hp => ?_)
        obtain ⟨v143, rfl, w144, F145, f141, f142⟩ := hp
        replace ha : OB T139 a 5 := gt140.ob ha
        have rp147 : RP σ138 a (kp - 4 * v46 - 7 * v143 + 1) := RP.up f142 (by omega)
        show Tn _ _ 67 T139 σ138 [(1, .int (iI v20)), (0, .ref a)] [.int (iI v143)] _
        refine tn_goto (tgt := 75) dX5_assignment_67 (by decide) ?_
        refine tn_istore_n (L' := [(2, .int (iI v143)), (1, .int (iI v20)), (0, .ref a)]) dX5_assignment_75 rfl (by decide) rfl ?_
        refine tn_aload_n dX5_assignment_76 rfl 2 rfl ?_
        obtain ⟨x148, hx149, hk150⟩ : ∃ x : Nat, σ138.2.1 35 a = (x : Int) ∧ (T139 x).1 = 31 := wf_35 w144 ha
        have hk150o : OB T139 x148 1 := ⟨by omega, by rw [hk150]; rfl, by omega⟩
        refine tn_getR (ci := 5) (i := 2) (n := 35) (x := x148) dX5_assignment_77 rfl lay_5 (by decide) fl5_47 ha rfl rfl (hx149) ?_
        refine tn_bipush dX5_assignment_80 (by decide) ?_
        refine tn_iload_n dX5_assignment_82 rfl 1 rfl ?_
        refine tn_iconst dX5_assignment_83 ?_
        refine tn_callV (M := m_X5_assignment) (pc := 84) (ix := 139) (ci := 1) (M' := m_X1_append) (As := [.int (iI 12), .int (iI v20), .int (iI 0)]) (rest := []) dX5_assignment_84 ok_X1_append im_X1_append se_X1_append ml5_139 np_X1_append rfl rfl hk150o rfl (Nat.le_of_ble_eq_true rfl) (Nat.le_of_ble_eq_true rfl) rfl (k_X1_append (d + 48) (T := T139) (σ := σ138) (a := x148) (k := 12) (x := v20) (y := 0) hk150o hk150 (by decide) (by omega) (by decide) w144 (RP.cnt rp147 w144 ha (hx149) (by omega)) (by omega)) (fun r152 T154 σ153 gt155 hp => ?_)
        obtain ⟨rfl, w158, F159, f156⟩ := hp
        replace ha : OB T154 a 5 := gt155.ob ha
        have rp160 : RP σ153 a (kp - 4 * v46 - 7 * v143 + 1 + 1) := RP.app rp147 (hx149) F159 (by decide) (by decide) (by decide) (by decide) f156
        have rp161 : RP σ153 a (kp - 4 * v46 - 7 * v143 + 2) := RP.up rp160 (by omega)
        show Tn _ _ 87 T154 σ153 [(2, .int (iI v143)), (1, .int (iI v20)), (0, .ref a)] [] _
        refine tn_aload_n dX5_assignment_87 rfl 2 rfl ?_
        obtain ⟨x162, hx163, hk164⟩ : ∃ x : Nat, σ153.2.1 35 a = (x : Int) ∧ (T154 x).1 = 31 := wf_35 w158 ha
        have hk164o : OB T154 x162 1 := ⟨by omega, by rw [hk164]; rfl, by omega⟩
        refine tn_getR (ci := 5) (i := 2) (n := 35) (x := x162) dX5_assignment_88 rfl lay_5 (by decide) fl5_47 ha rfl rfl (hx163) ?_
        refine tn_aload_n dX5_assignment_91 rfl 2 rfl ?_
        refine tn_getR (ci := 5) (i := 2) (n := 35) (x := x162) dX5_assignment_92 rfl lay_5 (by decide) fl5_47 ha rfl rfl (hx163) ?_
        refine tn_getI (ci := 1) (i := 1) (n := 6) (t := σ153.2.1 6 x162) dX5_assignment_95 rfl lay_1 (by decide) fl5_146 hk164o rfl rfl (rfl) ?_
        have g166 : ((0 : Int) ≤ σ153.2.1 6 x162 ∧ σ153.2.1 6 x162 ≤ 5000) ∧ ((T154 x162).1 = 50 → σ153.2.1 6 x162 ≤ 200) := wf_6 w158 hk164o
        have g166x := g166.2
        replace g166 := g166.1
        clear g166x
        refine tn_iconst dX5_assignment_98 ?_
        refine tn_isub dX5_assignment_99 ?_
        refine tn_iconst dX5_assignment_100 ?_
        refine tn_iload_n dX5_assignment_101 rfl 1 rfl ?_
        refine tn_callV (M := m_X5_assignment) (pc := 102) (ix := 210) (ci := 1) (M' := m_X1_setWhere) (As := [.int (iI ((σ153.2.1 6 x162) - 1)), .int (iI 2), .int (iI v20)]) (rest := []) dX5_assignment_102 ok_X1_setWhere im_X1_setWhere se_X1_setWhere ml5_210 np_X1_setWhere rfl rfl hk164o rfl (Nat.le_of_ble_eq_true rfl) (Nat.le_of_ble_eq_true rfl) rfl (k_X1_setWhere (d + 49) (T := T154) (σ := σ153) (a := x162) (k := (σ153.2.1 6 x162) - 1) (y := 2) (z := v20) hk164o (by omega) (by decide) (by omega) w158 ) (fun r167 T169 σ168 gt170 hp => ?_)
        obtain ⟨rfl, rfl, w172, F173⟩ := hp
        clear gt170
        have rp174 : RP σ168 a (kp - 4 * v46 - 7 * v143 + 2) := RP.frc rp161 F173 (by decide) (by decide) (by decide) (by decide) (by decide)
        show Tn _ _ 105 T154 σ168 [(2, .int (iI v143)), (1, .int (iI v20)), (0, .ref a)] [] _
        refine tn_iload_n dX5_assignment_105 rfl 0 rfl ?_
        exact tn_zret (v := v143) rfl (by omega) dX5_assignment_106 ⟨_, rfl, w172, (((((((FrC.rfl.trans (FrC.sub F13 (by decide))).trans (FrC.sub (FrC.old F22 gt9) (by decide))).trans (FrC.sub (FrC.old F38 gt9) (by decide))).trans (FrC.sub (FrC.old F48 gt9) (by decide))).trans (FrC.sub (FrC.old F145 gt9) (by decide))).trans (FrC.sub (FrC.old F159 (GT.trans gt9 gt140)) (by decide))).trans (FrC.sub (FrC.old F173 (GT.trans (GT.trans gt9 gt140) gt155)) (by decide))), by omega, (RP.up rp174 (by omega))⟩
  · refine tn_iconst dX5_assignment_35 ?_
    exact tn_zret (v := 0) rfl (by decide) dX5_assignment_36 ⟨_, rfl, w47, ((((FrC.rfl.trans (FrC.sub F13 (by decide))).trans (FrC.sub (FrC.old F22 gt9) (by decide))).trans (FrC.sub (FrC.old F38 gt9) (by decide))).trans (FrC.sub (FrC.old F48 gt9) (by decide))), by omega, (RP.up rp50 (by omega))⟩
end
section
theorem cd_X5_single : Cond.code yX5_single cX5_single 2 (some .boolean) ∈ pWW := pw3 (List.mem_of_getElem? (i := 209) rfl) rfl
abbrev m_X5_single : MT := (yX5_single, cX5_single, 2, (some .boolean))
theorem ok_X5_single : pOk m_X5_single := ⟨⟨cd_X5_single, ini_5⟩, by decide +kernel, ⟨by decide +kernel, by decide +kernel⟩, Nat.le_of_ble_eq_true rfl⟩
theorem np_X5_single : (parseMethodDescriptor yX5_single.desc).map (fun d => d.parameters.length) = some 1 := by decide +kernel
theorem im_X5_single : Cond.instanceMethod yX5_single ∈ pWW := pw3 (List.mem_of_getElem? (i := 208) rfl) rfl
theorem se_X5_single : Cond.selects RX5 yX5_single yX5_single ∈ pWW := pws (List.mem_map.mpr ⟨_, lw_pin 26 rfl, rfl⟩) rfl
theorem dX5_single_0 : decode cX5_single 0 = .ok (.aload_n 0, 1) := by decide +kernel
theorem dX5_single_1 : decode cX5_single 1 = .ok (.getfield 47, 3) := by decide +kernel
theorem dX5_single_4 : decode cX5_single 4 = .ok (.bipush 11, 2) := by decide +kernel
theorem dX5_single_6 : decode cX5_single 6 = .ok (.aload_n 0, 1) := by decide +kernel
theorem dX5_single_7 : decode cX5_single 7 = .ok (.getfield 64, 3) := by decide +kernel
theorem dX5_single_10 : decode cX5_single 10 = .ok (.iconst 0, 1) := by decide +kernel
theorem dX5_single_11 : decode cX5_single 11 = .ok (.invokevirtual 139, 3) := by decide +kernel
theorem dX5_single_14 : decode cX5_single 14 = .ok (.aload_n 0, 1) := by decide +kernel
theorem dX5_single_15 : decode cX5_single 15 = .ok (.getfield 12, 3) := by decide +kernel
theorem dX5_single_18 : decode cX5_single 18 = .ok (.invokevirtual 93, 3) := by decide +kernel
theorem dX5_single_21 : decode cX5_single 21 = .ok (.aload_n 0, 1) := by decide +kernel
theorem dX5_single_22 : decode cX5_single 22 = .ok (.iconst 1, 1) := by decide +kernel
theorem dX5_single_23 : decode cX5_single 23 = .ok (.invokevirtual 213, 3) := by decide +kernel
theorem dX5_single_26 : decode cX5_single 26 = .ok (.ifCond .eq 12, 3) := by decide +kernel
theorem dX5_single_38 : decode cX5_single 38 = .ok (.iconst 0, 1) := by decide +kernel
theorem dX5_single_39 : decode cX5_single 39 = .ok (.ireturn, 1) := by decide +kernel
theorem dX5_single_29 : decode cX5_single 29 = .ok (.aload_n 0, 1) := by decide +kernel
theorem dX5_single_30 : decode cX5_single 30 = .ok (.bipush 59, 2) := by decide +kernel
theorem dX5_single_32 : decode cX5_single 32 = .ok (.invokevirtual 102, 3) := by decide +kernel
theorem dX5_single_35 : decode cX5_single 35 = .ok (.ifCond .ne 5, 3) := by decide +kernel
theorem dX5_single_40 : decode cX5_single 40 = .ok (.aload_n 0, 1) := by decide +kernel
theorem dX5_single_41 : decode cX5_single 41 = .ok (.getfield 47, 3) := by decide +kernel
theorem dX5_single_44 : decode cX5_single 44 = .ok (.iload_n 1, 1) := by decide +kernel
theorem dX5_single_45 : decode cX5_single 45 = .ok (.iconst 0, 1) := by decide +kernel
theorem dX5_single_46 : decode cX5_single 46 = .ok (.iconst 0, 1) := by decide +kernel
theorem dX5_single_47 : decode cX5_single 47 = .ok (.invokevirtual 139, 3) := by decide +kernel
theorem dX5_single_50 : decode cX5_single 50 = .ok (.aload_n 0, 1) := by decide +kernel
theorem dX5_single_51 : decode cX5_single 51 = .ok (.getfield 47, 3) := by decide +kernel
theorem dX5_single_54 : decode cX5_single 54 = .ok (.iconst 0, 1) := by decide +kernel
theorem dX5_single_55 : decode cX5_single 55 = .ok (.aload_n 0, 1) := by decide +kernel
theorem dX5_single_56 : decode cX5_single 56 = .ok (.getfield 216, 3) := by decide +kernel
theorem dX5_single_59 : decode cX5_single 59 = .ok (.aload_n 0, 1) := by decide +kernel
theorem dX5_single_60 : decode cX5_single 60 = .ok (.getfield 219, 3) := by decide +kernel
theorem dX5_single_63 : decode cX5_single 63 = .ok (.invokevirtual 143, 3) := by decide +kernel
theorem dX5_single_66 : decode cX5_single 66 = .ok (.iconst 1, 1) := by decide +kernel
theorem dX5_single_67 : decode cX5_single 67 = .ok (.ireturn, 1) := by decide +kernel
set_option maxRecDepth 20000 in
theorem k_X5_single (d : Nat) {T : CT} {σ : MS} {a : Nat} {k : Int} {kp : Int} (ha : OB T a 5) (h_k : -2147483648 ≤ k ∧ k ≤ 2147483647) (hw : WT T σ) (hk : k ≠ 14 ∧ k ≠ 15) (hkp : kp ≤ 140) (hrp : RP σ a kp) : Tn (d + 51) m_X5_single 0 T σ [(0, .ref a), (1, .int (iI k))] [] (fun ro T2 σ2 => ∃ v : Int, ro = some (.int (iI v)) ∧ WT T2 σ2 ∧ FrC T [5, 6, 7, 43, 44, 47, 50, 51, 84, 85, 86, 87, 521] σ σ2 ∧ (v = 0 ∨ v = 1) ∧ (RP σ2 a (kp + 1 - 7 * v))) := by
  refine tn_aload_n dX5_single_0 rfl 0 rfl ?_
  obtain ⟨x1, hx2, hk3⟩ : ∃ x : Nat, σ.2.1 35 a = (x : Int) ∧ (T x).1 = 31 := wf_35 hw ha
  have hk3o : OB T x1 1 := ⟨by omega, by rw [hk3]; rfl, by omega⟩
  refine tn_getR (ci := 5) (i := 2) (n := 35) (x := x1) dX5_single_1 rfl lay_5 (by decide) fl5_47 ha rfl rfl (hx2) ?_
  refine tn_bipush dX5_single_4 (by decide) ?_
  refine tn_aload_n dX5_single_6 rfl 0 rfl ?_
  refine tn_getI (ci := 5) (i := 12) (n := 45) (t := σ.2.1 45 a) dX5_single_7 rfl lay_5 (by decide) fl5_64 ha rfl rfl (rfl) ?_
  have g5 : ((-2147483648 : Int) ≤ σ.2.1 45 a ∧ σ.2.1 45 a ≤ 2147483647) := wf_45 hw ha
  refine tn_iconst dX5_single_10 ?_
  refine tn_callV (M := m_X5_single) (pc := 11) (ix := 139) (ci := 1) (M' := m_X1_append) (As := [.int (iI 11), .int (iI (σ.2.1 45 a)), .int (iI 0)]) (rest := []) dX5_single_11 ok_X1_append im_X1_append se_X1_append ml5_139 np_X1_append rfl rfl hk3o rfl (Nat.le_of_ble_eq_true rfl) (Nat.le_of_ble_eq_true rfl) rfl (k_X1_append (d + 47) (T := T) (σ := σ) (a := x1) (k := 11) (x := σ.2.1 45 a) (y := 0) hk3o hk3 (by decide) (by omega) (by decide) hw (RP.cnt hrp hw ha (hx2) (by omega)) (by omega)) (fun r6 T8 σ7 gt9 hp => ?_)
  obtain ⟨rfl, w12, F13, f10⟩ := hp
  replace ha : OB T8 a 5 := gt9.ob ha
  have rp14 : RP σ7 a (kp + 1) := RP.app hrp (hx2) F13 (by decide) (by decide) (by decide) (by decide) f10
  show Tn _ _ 14 T8 σ7 [(0, .ref a), (1, .int (iI k))] [] _
  refine tn_aload_n dX5_single_14 rfl 0 rfl ?_
  obtain ⟨x15, hx16, hk17⟩ : ∃ x : Nat, σ7.2.1 33 a = (x : Int) ∧ (T8 x).1 = 39 := wf_33 w12 ha
  have hk17o : OB T8 x15 9 := ⟨by omega, by rw [hk17]; rfl, by omega⟩
  refine tn_getR (ci := 5) (i := 0) (n := 33) (x := x15) dX5_single_15 rfl lay_5 (by decide) fl5_12 ha rfl rfl (hx16) ?_
  refine tn_callV (M := m_X5_single) (pc := 18) (ix := 93) (ci := 9) (M' := m_X9_next) (As := []) (rest := []) dX5_single_18 ok_X9_next im_X9_next se_X9_next ml5_93 np_X9_next rfl rfl hk17o rfl (Nat.le_of_ble_eq_true rfl) (Nat.le_of_ble_eq_true rfl) rfl (k_X9_next (d + 49) (T := T8) (σ := σ7) (a := x15) hk17o w12 (RP.tk rp14 w12 ha (hx16))) (fun r19 T21 σ20 gt22 hp => ?_)
  obtain ⟨rfl, rfl, w27, F28, f23, f24, f25⟩ := hp
  clear gt22
  have rp29 : RP σ20 a (kp + 1) := RP.next rp14 (hx16) F28 (by decide) (by decide) (by decide) f23 f24
  show Tn _ _ 21 T8 σ20 [(0, .ref a), (1, .int (iI k))] [] _
  refine tn_aload_n dX5_single_21 rfl 0 rfl ?_
  refine tn_iconst dX5_single_22 ?_
  refine tn_callV (M := m_X5_single) (pc := 23) (ix := 213) (ci := 5) (M' := m_X5_expression) (As := [.int (iI 1)]) (rest := []) dX5_single_23 ok_X5_expression im_X5_expression se_X5_expression ml5_213 np_X5_expression rfl rfl ha rfl (Nat.le_of_ble_eq_true rfl) (Nat.le_of_ble_eq_true rfl) rfl (k_X5_expression (d) (T := T8) (σ := σ20) (a := a) (dp := 1) (kp := kp + 1) ha (by decide) w27 (by omega) (by omega) rp29) (fun r30 T32 σ31 gt33 hp => ?_)
  obtain ⟨v36, rfl, w37, F38, f34, f35⟩ := hp
  replace ha : OB T32 a 5 := gt33.ob ha
  have rp40 : RP σ31 a (kp - 4 * v36 + 1) := RP.up f35 (by omega)
  show Tn _ _ 26 T32 σ31 [(0, .ref a), (1, .int (iI k))] [.int (iI v36)] _
  refine tn_if_eq (tgt := 38) dX5_single_26 (by decide) ⟨by omega, by omega⟩ (fun h41 => ?_) (fun h41 => ?_)
  · refine tn_iconst dX5_single_38 ?_
    exact tn_zret (v := 0) rfl (by decide) dX5_single_39 ⟨_, rfl, w37, (((FrC.rfl.trans (FrC.sub F13 (by decide))).trans (FrC.sub (FrC.old F28 gt9) (by decide))).trans (FrC.sub (FrC.old F38 gt9) (by decide))), by omega, (RP.up rp40 (by omega))⟩
  · refine tn_aload_n dX5_single_29 rfl 0 rfl ?_
    refine tn_bipush dX5_single_30 (by decide) ?_
    refine tn_callV (M := m_X5_single) (pc := 32) (ix := 102) (ci := 5) (M' := m_X5_taken) (As := [.int (iI 59)]) (rest := []) dX5_single_32 ok_X5_taken im_X5_taken se_X5_taken ml5_102 np_X5_taken rfl rfl ha rfl (Nat.le_of_ble_eq_true rfl) (Nat.le_of_ble_eq_true rfl) rfl (k_X5_taken (d + 48) (T := T32) (σ := σ31) (a := a) (s := 59) (kp := kp - 4 * v36 + 1) ha (by decide) w37 (by omega) (by omega) rp40) (fun r42 T44 σ43 gt45 hp => ?_)
    obtain ⟨v48, rfl, rfl, w49, F50, f46, f47⟩ := hp
    clear gt45
    have rp52 : RP σ43 a (kp - 4 * v36 - 4 * v48 + 1) := RP.up f47 (by omega)
    show Tn _ _ 35 T32 σ43 [(0, .ref a), (1, .int (iI k))] [.int (iI v48)] _
    refine tn_if_ne (tgt := 40) dX5_single_35 (by decide) ⟨by omega, by omega⟩ (fun h53 => ?_) (fun h53 => ?_)
    · refine tn_aload_n dX5_single_40 rfl 0 rfl ?_
      obtain ⟨x54, hx55, hk56⟩ : ∃ x : Nat, σ31.2.1 35 a = (x : Int) ∧ (T32 x).1 = 31 := wf_35 w37 ha
      have hk56o : OB T32 x54 1 := ⟨by omega, by rw [hk56]; rfl, by omega⟩
      refine tn_getR (ci := 5) (i := 2) (n := 35) (x := x54) dX5_single_41 rfl lay_5 (by decide) fl5_47 ha rfl rfl (rc_F F50 (Or.inl (by decide)) (by decide) (hx55)) ?_
      refine tn_iload_n dX5_single_44 rfl 1 rfl ?_
      refine tn_iconst dX5_single_45 ?_
      refine tn_iconst dX5_single_46 ?_
      have q62 : σ43.2.1 6 x54 = σ31.2.1 6 x54 := rc_F F50 (Or.inl (by decide)) (by decide) (rfl)
      refine tn_callV (M := m_X5_single) (pc := 47) (ix := 139) (ci := 1) (M' := m_X1_append) (As := [.int (iI k), .int (iI 0), .int (iI 0)]) (rest := []) dX5_single_47 ok_X1_append im_X1_append se_X1_append ml5_139 np_X1_append rfl rfl hk56o rfl (Nat.le_of_ble_eq_true rfl) (Nat.le_of_ble_eq_true rfl) rfl (k_X1_append (d + 47) (T := T32) (σ := σ43) (a := x54) (k := k) (x := 0) (y := 0) hk56o hk56 (by omega) (by decide) (by decide) w49 (RP.cnt rp52 w49 ha (rc_F F50 (Or.inl (by decide)) (by decide) (hx55)) (by omega)) (by omega)) (fun r58 T60 σ59 gt61 hp => ?_)
      obtain ⟨rfl, w65, F66, f63⟩ := hp
      replace ha : OB T60 a 5 := gt61.ob ha
      have rp67 : RP σ59 a (kp - 4 * v36 - 4 * v48 + 1 + 1) := RP.app rp52 (rc_F F50 (Or.inl (by decide)) (by decide) (hx55)) F66 (by decide) (by decide) (by decide) (by decide) f63
      have rp68 : RP σ59 a (kp - 4 * v36 - 4 * v48 + 2) := RP.up rp67 (by omega)
      show Tn _ _ 50 T60 σ59 [(0, .ref a), (1, .int (iI k))] [] _
      refine tn_aload_n dX5_single_50 rfl 0 rfl ?_
      obtain ⟨x69, hx70, hk71⟩ : ∃ x : Nat, σ59.2.1 35 a = (x : Int) ∧ (T60 x).1 = 31 := wf_35 w65 ha
      have hk71o : OB T60 x69 1 := ⟨by omega, by rw [hk71]; rfl, by omega⟩
      refine tn_getR (ci := 5) (i := 2) (n := 35) (x := x69) dX5_single_51 rfl lay_5 (by decide) fl5_47 ha rfl rfl (hx70) ?_
      refine tn_iconst dX5_single_54 ?_
      refine tn_aload_n dX5_single_55 rfl 0 rfl ?_
      refine tn_getI (ci := 5) (i := 17) (n := 50) (t := σ59.2.1 50 a) dX5_single_56 rfl lay_5 (by decide) fl5_216 ha rfl rfl (rfl) ?_
      have g73 : ((-2147483648 : Int) ≤ σ59.2.1 50 a ∧ σ59.2.1 50 a ≤ 2147483647) := wf_50 w65 ha
      refine tn_aload_n dX5_single_59 rfl 0 rfl ?_
      refine tn_getI (ci := 5) (i := 18) (n := 51) (t := σ59.2.1 51 a) dX5_single_60 rfl lay_5 (by decide) fl5_219 ha rfl rfl (rfl) ?_
      have g74 : ((-2147483648 : Int) ≤ σ59.2.1 51 a ∧ σ59.2.1 51 a ≤ 2147483647) := wf_51 w65 ha
      refine tn_callV (M := m_X5_single) (pc := 63) (ix := 143) (ci := 1) (M' := m_X1_lastOperand) (As := [.int (iI 0), .int (iI (σ59.2.1 50 a)), .int (iI (σ59.2.1 51 a))]) (rest := []) dX5_single_63 ok_X1_lastOperand im_X1_lastOperand se_X1_lastOperand ml5_143 np_X1_lastOperand rfl rfl hk71o rfl (Nat.le_of_ble_eq_true rfl) (Nat.le_of_ble_eq_true rfl) rfl (k_X1_lastOperand (d + 49) (T := T60) (σ := σ59) (a := x69) (i := 0) (k := σ59.2.1 50 a) (y := σ59.2.1 51 a) hk71o (by decide) (by omega) (by omega) w65 ) (fun r75 T77 σ76 gt78 hp => ?_)
      obtain ⟨rfl, rfl, w80, F81⟩ := hp
      clear gt78
      have rp82 : RP σ76 a (kp - 4 * v36 - 4 * v48 + 2) := RP.frc rp68 F81 (by decide) (by decide) (by decide) (by decide) (by decide)
      show Tn _ _ 66 T60 σ76 [(0, .ref a), (1, .int (iI k))] [] _
      refine tn_iconst dX5_single_66 ?_
      exact tn_zret (v := 1) rfl (by decide) dX5_single_67 ⟨_, rfl, w80, ((((((FrC.rfl.trans (FrC.sub F13 (by decide))).trans (FrC.sub (FrC.old F28 gt9) (by decide))).trans (FrC.sub (FrC.old F38 gt9) (by decide))).trans (FrC.sub (FrC.old F50 (GT.trans gt9 gt33)) (by decide))).trans (FrC.sub (FrC.old F66 (GT.trans gt9 gt33)) (by decide))).trans (FrC.sub (FrC.old F81 (GT.trans (GT.trans gt9 gt33) gt61)) (by decide))), by omega, (RP.up rp82 (by omega))⟩
    · refine tn_iconst dX5_single_38 ?_
      exact tn_zret (v := 0) rfl (by decide) dX5_single_39 ⟨_, rfl, w49, ((((FrC.rfl.trans (FrC.sub F13 (by decide))).trans (FrC.sub (FrC.old F28 gt9) (by decide))).trans (FrC.sub (FrC.old F38 gt9) (by decide))).trans (FrC.sub (FrC.old F50 (GT.trans gt9 gt33)) (by decide))), by omega, (RP.up rp52 (by omega))⟩
end
section
theorem cd_X5_block : Cond.code yX5_block cX5_block 3 (some .boolean) ∈ pWW := pw3 (List.mem_of_getElem? (i := 116) rfl) rfl
abbrev m_X5_block : MT := (yX5_block, cX5_block, 3, (some .boolean))
theorem ok_X5_block : pOk m_X5_block := ⟨⟨cd_X5_block, ini_5⟩, by decide +kernel, ⟨by decide +kernel, by decide +kernel⟩, Nat.le_of_ble_eq_true rfl⟩
theorem np_X5_block : (parseMethodDescriptor yX5_block.desc).map (fun d => d.parameters.length) = some 1 := by decide +kernel
theorem im_X5_block : Cond.instanceMethod yX5_block ∈ pWW := pw3 (List.mem_of_getElem? (i := 115) rfl) rfl
theorem se_X5_block : Cond.selects RX5 yX5_block yX5_block ∈ pWW := pws (List.mem_map.mpr ⟨_, lw_pin 14 rfl, rfl⟩) rfl
theorem cd_X5_choice : Cond.code yX5_choice cX5_choice 4 (some .boolean) ∈ pWW := pw3 (List.mem_of_getElem? (i := 213) rfl) rfl
abbrev m_X5_choice : MT := (yX5_choice, cX5_choice, 4, (some .boolean))
theorem ok_X5_choice : pOk m_X5_choice := ⟨⟨cd_X5_choice, ini_5⟩, by decide +kernel, ⟨by decide +kernel, by decide +kernel⟩, Nat.le_of_ble_eq_true rfl⟩
theorem np_X5_choice : (parseMethodDescriptor yX5_choice.desc).map (fun d => d.parameters.length) = some 1 := by decide +kernel
theorem im_X5_choice : Cond.instanceMethod yX5_choice ∈ pWW := pw3 (List.mem_of_getElem? (i := 212) rfl) rfl
theorem se_X5_choice : Cond.selects RX5 yX5_choice yX5_choice ∈ pWW := pws (List.mem_map.mpr ⟨_, lw_pin 27 rfl, rfl⟩) rfl
theorem ml5_235 : Cond.methodLink RX5 235 yX5_zeroToNew ∈ pWW := pw3 (List.mem_of_getElem? (i := 214) rfl) rfl
theorem ml5_79 : Cond.methodLink RX5 79 yX5_block ∈ pWW := pw3 (List.mem_of_getElem? (i := 113) rfl) rfl
theorem dX5_choice_0 : decode cX5_choice 0 = .ok (.aload_n 0, 1) := by decide +kernel
theorem dX5_choice_1 : decode cX5_choice 1 = .ok (.getfield 47, 3) := by decide +kernel
theorem dX5_choice_4 : decode cX5_choice 4 = .ok (.bipush 11, 2) := by decide +kernel
theorem dX5_choice_6 : decode cX5_choice 6 = .ok (.aload_n 0, 1) := by decide +kernel
theorem dX5_choice_7 : decode cX5_choice 7 = .ok (.getfield 64, 3) := by decide +kernel
theorem dX5_choice_10 : decode cX5_choice 10 = .ok (.iconst 0, 1) := by decide +kernel
theorem dX5_choice_11 : decode cX5_choice 11 = .ok (.invokevirtual 139, 3) := by decide +kernel
theorem dX5_choice_14 : decode cX5_choice 14 = .ok (.aload_n 0, 1) := by decide +kernel
theorem dX5_choice_15 : decode cX5_choice 15 = .ok (.getfield 12, 3) := by decide +kernel
theorem dX5_choice_18 : decode cX5_choice 18 = .ok (.invokevirtual 93, 3) := by decide +kernel
theorem dX5_choice_21 : decode cX5_choice 21 = .ok (.aload_n 0, 1) := by decide +kernel
theorem dX5_choice_22 : decode cX5_choice 22 = .ok (.iconst 1, 1) := by decide +kernel
theorem dX5_choice_23 : decode cX5_choice 23 = .ok (.invokevirtual 213, 3) := by decide +kernel
theorem dX5_choice_26 : decode cX5_choice 26 = .ok (.ifCond .ne 5, 3) := by decide +kernel
theorem dX5_choice_31 : decode cX5_choice 31 = .ok (.aload_n 0, 1) := by decide +kernel
theorem dX5_choice_32 : decode cX5_choice 32 = .ok (.invokevirtual 235, 3) := by decide +kernel
theorem dX5_choice_35 : decode cX5_choice 35 = .ok (.istore_n 2, 1) := by decide +kernel
theorem dX5_choice_36 : decode cX5_choice 36 = .ok (.aload_n 0, 1) := by decide +kernel
theorem dX5_choice_37 : decode cX5_choice 37 = .ok (.iload_n 1, 1) := by decide +kernel
theorem dX5_choice_38 : decode cX5_choice 38 = .ok (.iconst 1, 1) := by decide +kernel
theorem dX5_choice_39 : decode cX5_choice 39 = .ok (.iadd, 1) := by decide +kernel
theorem dX5_choice_40 : decode cX5_choice 40 = .ok (.invokevirtual 79, 3) := by decide +kernel
theorem dX5_choice_43 : decode cX5_choice 43 = .ok (.ifCond .ne 5, 3) := by decide +kernel
theorem dX5_choice_48 : decode cX5_choice 48 = .ok (.aload_n 0, 1) := by decide +kernel
theorem dX5_choice_49 : decode cX5_choice 49 = .ok (.getfield 12, 3) := by decide +kernel
theorem dX5_choice_52 : decode cX5_choice 52 = .ok (.getfield 71, 3) := by decide +kernel
theorem dX5_choice_55 : decode cX5_choice 55 = .ok (.sipush 261, 3) := by decide +kernel
theorem dX5_choice_58 : decode cX5_choice 58 = .ok (.if_icmp .eq 16, 3) := by decide +kernel
theorem dX5_choice_74 : decode cX5_choice 74 = .ok (.aload_n 0, 1) := by decide +kernel
theorem dX5_choice_75 : decode cX5_choice 75 = .ok (.invokevirtual 238, 3) := by decide +kernel
theorem dX5_choice_78 : decode cX5_choice 78 = .ok (.istore_n 3, 1) := by decide +kernel
theorem dX5_choice_79 : decode cX5_choice 79 = .ok (.aload_n 0, 1) := by decide +kernel
theorem dX5_choice_80 : decode cX5_choice 80 = .ok (.getfield 47, 3) := by decide +kernel
theorem dX5_choice_83 : decode cX5_choice 83 = .ok (.bipush 8, 2) := by decide +kernel
theorem dX5_choice_85 : decode cX5_choice 85 = .ok (.iload_n 3, 1) := by decide +kernel
theorem dX5_choice_86 : decode cX5_choice 86 = .ok (.iconst 0, 1) := by decide +kernel
theorem dX5_choice_87 : decode cX5_choice 87 = .ok (.invokevirtual 139, 3) := by decide +kernel
theorem dX5_choice_90 : decode cX5_choice 90 = .ok (.aload_n 0, 1) := by decide +kernel
theorem dX5_choice_91 : decode cX5_choice 91 = .ok (.getfield 47, 3) := by decide +kernel
theorem dX5_choice_94 : decode cX5_choice 94 = .ok (.bipush 13, 2) := by decide +kernel
theorem dX5_choice_96 : decode cX5_choice 96 = .ok (.iload_n 2, 1) := by decide +kernel
theorem dX5_choice_97 : decode cX5_choice 97 = .ok (.iconst 0, 1) := by decide +kernel
theorem dX5_choice_98 : decode cX5_choice 98 = .ok (.invokevirtual 139, 3) := by decide +kernel
theorem dX5_choice_101 : decode cX5_choice 101 = .ok (.aload_n 0, 1) := by decide +kernel
theorem dX5_choice_102 : decode cX5_choice 102 = .ok (.getfield 12, 3) := by decide +kernel
theorem dX5_choice_105 : decode cX5_choice 105 = .ok (.invokevirtual 93, 3) := by decide +kernel
theorem dX5_choice_108 : decode cX5_choice 108 = .ok (.aload_n 0, 1) := by decide +kernel
theorem dX5_choice_109 : decode cX5_choice 109 = .ok (.iload_n 1, 1) := by decide +kernel
theorem dX5_choice_110 : decode cX5_choice 110 = .ok (.iconst 1, 1) := by decide +kernel
theorem dX5_choice_111 : decode cX5_choice 111 = .ok (.iadd, 1) := by decide +kernel
theorem dX5_choice_112 : decode cX5_choice 112 = .ok (.invokevirtual 79, 3) := by decide +kernel
theorem dX5_choice_115 : decode cX5_choice 115 = .ok (.ifCond .ne 5, 3) := by decide +kernel
theorem dX5_choice_120 : decode cX5_choice 120 = .ok (.aload_n 0, 1) := by decide +kernel
theorem dX5_choice_121 : decode cX5_choice 121 = .ok (.getfield 47, 3) := by decide +kernel
theorem dX5_choice_124 : decode cX5_choice 124 = .ok (.bipush 13, 2) := by decide +kernel
theorem dX5_choice_126 : decode cX5_choice 126 = .ok (.iload_n 3, 1) := by decide +kernel
theorem dX5_choice_127 : decode cX5_choice 127 = .ok (.iconst 0, 1) := by decide +kernel
theorem dX5_choice_128 : decode cX5_choice 128 = .ok (.invokevirtual 139, 3) := by decide +kernel
theorem dX5_choice_131 : decode cX5_choice 131 = .ok (.iconst 1, 1) := by decide +kernel
theorem dX5_choice_132 : decode cX5_choice 132 = .ok (.ireturn, 1) := by decide +kernel
theorem dX5_choice_118 : decode cX5_choice 118 = .ok (.iconst 0, 1) := by decide +kernel
theorem dX5_choice_119 : decode cX5_choice 119 = .ok (.ireturn, 1) := by decide +kernel
theorem dX5_choice_61 : decode cX5_choice 61 = .ok (.aload_n 0, 1) := by decide +kernel
theorem dX5_choice_62 : decode cX5_choice 62 = .ok (.getfield 47, 3) := by decide +kernel
theorem dX5_choice_65 : decode cX5_choice 65 = .ok (.bipush 13, 2) := by decide +kernel
theorem dX5_choice_67 : decode cX5_choice 67 = .ok (.iload_n 2, 1) := by decide +kernel
theorem dX5_choice_68 : decode cX5_choice 68 = .ok (.iconst 0, 1) := by decide +kernel
theorem dX5_choice_69 : decode cX5_choice 69 = .ok (.invokevirtual 139, 3) := by decide +kernel
theorem dX5_choice_72 : decode cX5_choice 72 = .ok (.iconst 1, 1) := by decide +kernel
theorem dX5_choice_73 : decode cX5_choice 73 = .ok (.ireturn, 1) := by decide +kernel
theorem dX5_choice_46 : decode cX5_choice 46 = .ok (.iconst 0, 1) := by decide +kernel
theorem dX5_choice_47 : decode cX5_choice 47 = .ok (.ireturn, 1) := by decide +kernel
theorem dX5_choice_29 : decode cX5_choice 29 = .ok (.iconst 0, 1) := by decide +kernel
theorem dX5_choice_30 : decode cX5_choice 30 = .ok (.ireturn, 1) := by decide +kernel
set_option maxRecDepth 20000 in
theorem k_X5_choice (d : Nat) {T : CT} {σ : MS} {a : Nat} {dp : Int} {kp : Int} {lv : Nat} (ha : OB T a 5) (h_dp : -2147483648 ≤ dp ∧ dp ≤ 2147483647) (hw : WT T σ) (hex : ∀ (d : Nat) {T : CT} {σ : MS} {a : Nat} {dp : Int} {kp : Int} (ha : OB T a 5) (h_dp : -2147483648 ≤ dp ∧ dp ≤ 2147483647) (hw : WT T σ) (hdp : 0 ≤ dp ∧ dp ≤ 7) (hlv : 7 ≤ dp + (lv : Int)) (hkp : kp ≤ 140) (hrp : RP σ a kp), Tn (d + 3 * lv + 60) m_X5_block 0 T σ [(0, .ref a), (1, .int (iI dp))] [] (fun ro T2 σ2 => ∃ v : Int, ro = some (.int (iI v)) ∧ WT T2 σ2 ∧ FrC T [5, 6, 7, 9, 42, 43, 44, 45, 46, 47, 50, 51, 84, 85, 86, 87, 518, 519, 520, 521] σ σ2 ∧ (v = 0 ∨ v = 1) ∧ (RP σ2 a (kp + 2 - 10 * v)))) (hdp : 0 ≤ dp ∧ dp ≤ 6) (hlv : 6 ≤ dp + (lv : Int)) (hkp : kp ≤ 140) (hrp : RP σ a kp) : Tn (d + 3 * lv + 61) m_X5_choice 0 T σ [(0, .ref a), (1, .int (iI dp))] [] (fun ro T2 σ2 => ∃ v : Int, ro = some (.int (iI v)) ∧ WT T2 σ2 ∧ FrC T [5, 6, 7, 9, 42, 43, 44, 45, 46, 47, 50, 51, 84, 85, 86, 87, 518, 519, 520, 521] σ σ2 ∧ (v = 0 ∨ v = 1) ∧ (RP σ2 a (kp + 1 - 10 * v))) := by
  refine tn_aload_n dX5_choice_0 rfl 0 rfl ?_
  obtain ⟨x1, hx2, hk3⟩ : ∃ x : Nat, σ.2.1 35 a = (x : Int) ∧ (T x).1 = 31 := wf_35 hw ha
  have hk3o : OB T x1 1 := ⟨by omega, by rw [hk3]; rfl, by omega⟩
  refine tn_getR (ci := 5) (i := 2) (n := 35) (x := x1) dX5_choice_1 rfl lay_5 (by decide) fl5_47 ha rfl rfl (hx2) ?_
  refine tn_bipush dX5_choice_4 (by decide) ?_
  refine tn_aload_n dX5_choice_6 rfl 0 rfl ?_
  refine tn_getI (ci := 5) (i := 12) (n := 45) (t := σ.2.1 45 a) dX5_choice_7 rfl lay_5 (by decide) fl5_64 ha rfl rfl (rfl) ?_
  have g5 : ((-2147483648 : Int) ≤ σ.2.1 45 a ∧ σ.2.1 45 a ≤ 2147483647) := wf_45 hw ha
  refine tn_iconst dX5_choice_10 ?_
  refine tn_callV (M := m_X5_choice) (pc := 11) (ix := 139) (ci := 1) (M' := m_X1_append) (As := [.int (iI 11), .int (iI (σ.2.1 45 a)), .int (iI 0)]) (rest := []) dX5_choice_11 ok_X1_append im_X1_append se_X1_append ml5_139 np_X1_append rfl rfl hk3o rfl (Nat.le_of_ble_eq_true rfl) (Nat.le_of_ble_eq_true rfl) rfl (k_X1_append (d + 3 * lv + 57) (T := T) (σ := σ) (a := x1) (k := 11) (x := σ.2.1 45 a) (y := 0) hk3o hk3 (by decide) (by omega) (by decide) hw (RP.cnt hrp hw ha (hx2) (by omega)) (by omega)) (fun r6 T8 σ7 gt9 hp => ?_)
  obtain ⟨rfl, w12, F13, f10⟩ := hp
  replace ha : OB T8 a 5 := gt9.ob ha
  have rp14 : RP σ7 a (kp + 1) := RP.app hrp (hx2) F13 (by decide) (by decide) (by decide) (by decide) f10
  show Tn _ _ 14 T8 σ7 [(0, .ref a), (1, .int (iI dp))] [] _
  refine tn_aload_n dX5_choice_14 rfl 0 rfl ?_
  obtain ⟨x15, hx16, hk17⟩ : ∃ x : Nat, σ7.2.1 33 a = (x : Int) ∧ (T8 x).1 = 39 := wf_33 w12 ha
  have hk17o : OB T8 x15 9 := ⟨by omega, by rw [hk17]; rfl, by omega⟩
  refine tn_getR (ci := 5) (i := 0) (n := 33) (x := x15) dX5_choice_15 rfl lay_5 (by decide) fl5_12 ha rfl rfl (hx16) ?_
  refine tn_callV (M := m_X5_choice) (pc := 18) (ix := 93) (ci := 9) (M' := m_X9_next) (As := []) (rest := []) dX5_choice_18 ok_X9_next im_X9_next se_X9_next ml5_93 np_X9_next rfl rfl hk17o rfl (Nat.le_of_ble_eq_true rfl) (Nat.le_of_ble_eq_true rfl) rfl (k_X9_next (d + 3 * lv + 59) (T := T8) (σ := σ7) (a := x15) hk17o w12 (RP.tk rp14 w12 ha (hx16))) (fun r19 T21 σ20 gt22 hp => ?_)
  obtain ⟨rfl, rfl, w27, F28, f23, f24, f25⟩ := hp
  clear gt22
  have rp29 : RP σ20 a (kp + 1) := RP.next rp14 (hx16) F28 (by decide) (by decide) (by decide) f23 f24
  show Tn _ _ 21 T8 σ20 [(0, .ref a), (1, .int (iI dp))] [] _
  refine tn_aload_n dX5_choice_21 rfl 0 rfl ?_
  refine tn_iconst dX5_choice_22 ?_
  refine tn_callV (M := m_X5_choice) (pc := 23) (ix := 213) (ci := 5) (M' := m_X5_expression) (As := [.int (iI 1)]) (rest := []) dX5_choice_23 ok_X5_expression im_X5_expression se_X5_expression ml5_213 np_X5_expression rfl rfl ha rfl (Nat.le_of_ble_eq_true rfl) (Nat.le_of_ble_eq_true rfl) rfl (k_X5_expression (d + 3 * lv + 10) (T := T8) (σ := σ20) (a := a) (dp := 1) (kp := kp + 1) ha (by decide) w27 (by omega) (by omega) rp29) (fun r30 T32 σ31 gt33 hp => ?_)
  obtain ⟨v36, rfl, w37, F38, f34, f35⟩ := hp
  replace ha : OB T32 a 5 := gt33.ob ha
  have rp40 : RP σ31 a (kp - 4 * v36 + 1) := RP.up f35 (by omega)
  show Tn _ _ 26 T32 σ31 [(0, .ref a), (1, .int (iI dp))] [.int (iI v36)] _
  refine tn_if_ne (tgt := 31) dX5_choice_26 (by decide) ⟨by omega, by omega⟩ (fun h41 => ?_) (fun h41 => ?_)
  · refine tn_aload_n dX5_choice_31 rfl 0 rfl ?_
    refine tn_callV (M := m_X5_choice) (pc := 32) (ix := 235) (ci := 5) (M' := m_X5_zeroToNew) (As := []) (rest := []) dX5_choice_32 ok_X5_zeroToNew im_X5_zeroToNew se_X5_zeroToNew ml5_235 np_X5_zeroToNew rfl rfl ha rfl (Nat.le_of_ble_eq_true rfl) (Nat.le_of_ble_eq_true rfl) rfl (k_X5_zeroToNew (d + 3 * lv + 56) (T := T32) (σ := σ31) (a := a) (kp := kp - 4 * v36 + 1) ha w37 (by omega) rp40) (fun r42 T44 σ43 gt45 hp => ?_)
    obtain ⟨v48, rfl, w49, F50, f46, f47⟩ := hp
    replace ha : OB T44 a 5 := gt45.ob ha
    have rp52 : RP σ43 a (kp - 4 * v36 + 2) := RP.up f47 (by omega)
    show Tn _ _ 35 T44 σ43 [(0, .ref a), (1, .int (iI dp))] [.int (iI v48)] _
    refine tn_istore_n (L' := [(2, .int (iI v48)), (0, .ref a), (1, .int (iI dp))]) dX5_choice_35 rfl (by decide) rfl ?_
    refine tn_aload_n dX5_choice_36 rfl 1 rfl ?_
    refine tn_iload_n dX5_choice_37 rfl 2 rfl ?_
    refine tn_iconst dX5_choice_38 ?_
    refine tn_iadd dX5_choice_39 ?_
    refine tn_callV (M := m_X5_choice) (pc := 40) (ix := 79) (ci := 5) (M' := m_X5_block) (As := [.int (iI (dp + 1))]) (rest := []) dX5_choice_40 ok_X5_block im_X5_block se_X5_block ml5_79 np_X5_block rfl rfl ha rfl (Nat.le_of_ble_eq_true rfl) (Nat.le_of_ble_eq_true rfl) rfl (hex (d) (T := T44) (σ := σ43) (a := a) (dp := dp + 1) (kp := kp - 4 * v36 + 2) ha (by omega) w49 (by omega) (by omega) (by omega) rp52) (fun r53 T55 σ54 gt56 hp => ?_)
    obtain ⟨v59, rfl, w60, F61, f57, f58⟩ := hp
    replace ha : OB T55 a 5 := gt56.ob ha
    have rp63 : RP σ54 a (kp - 4 * v36 - 10 * v59 + 4) := RP.up f58 (by omega)
    show Tn _ _ 43 T55 σ54 [(2, .int (iI v48)), (0, .ref a), (1, .int (iI dp))] [.int (iI v59)] _
    refine tn_if_ne (tgt := 48) dX5_choice_43 (by decide) ⟨by omega, by omega⟩ (fun h64 => ?_) (fun h64 => ?_)
    · refine tn_aload_n dX5_choice_48 rfl 1 rfl ?_
      obtain ⟨x65, hx66, hk67⟩ : ∃ x : Nat, σ54.2.1 33 a = (x : Int) ∧ (T55 x).1 = 39 := wf_33 w60 ha
      have hk67o : OB T55 x65 9 := ⟨by omega, by rw [hk67]; rfl, by omega⟩
      refine tn_getR (ci := 5) (i := 0) (n := 33) (x := x65) dX5_choice_49 rfl lay_5 (by decide) fl5_12 ha rfl rfl (hx66) ?_
      refine tn_getI (ci := 9) (i := 4) (n := 85) (t := σ54.2.1 85 x65) dX5_choice_52 rfl lay_9 (by decide) fl5_71 hk67o rfl rfl (rfl) ?_
      have g69 : ((-2147483648 : Int) ≤ σ54.2.1 85 x65 ∧ σ54.2.1 85 x65 ≤ 2147483647) := wf_85 w60 hk67o
      refine tn_sipush dX5_choice_55 (by decide) ?_
      refine tn_icmp_eq (tgt := 74) dX5_choice_58 (by decide) ⟨by omega, by omega⟩ ⟨by decide, by decide⟩ (fun h70 => ?_) (fun h70 => ?_)
      · refine tn_aload_n dX5_choice_74 rfl 1 rfl ?_
        refine tn_callV (M := m_X5_choice) (pc := 75) (ix := 238) (ci := 5) (M' := m_X5_newLabel) (As := []) (rest := []) dX5_choice_75 ok_X5_newLabel im_X5_newLabel se_X5_newLabel ml5_238 np_X5_newLabel rfl rfl ha rfl (Nat.le_of_ble_eq_true rfl) (Nat.le_of_ble_eq_true rfl) rfl (k_X5_newLabel (d + 3 * lv + 59) (T := T55) (σ := σ54) (a := a) ha w60 ) (fun r71 T73 σ72 gt74 hp => ?_)
        obtain ⟨v76, rfl, rfl, w77, F78, f75⟩ := hp
        clear gt74
        have rp79 : RP σ72 a (kp - 4 * v36 - 10 * v59 + 4) := RP.frc rp63 F78 (by decide) (by decide) (by decide) (by decide) (by decide)
        show Tn _ _ 78 T55 σ72 [(2, .int (iI v48)), (0, .ref a), (1, .int (iI dp))] [.int (iI v76)] _
        refine tn_istore_n (L' := [(3, .int (iI v76)), (2, .int (iI v48)), (0, .ref a), (1, .int (iI dp))]) dX5_choice_78 rfl (by decide) rfl ?_
        refine tn_aload_n dX5_choice_79 rfl 2 rfl ?_
        obtain ⟨x80, hx81, hk82⟩ : ∃ x : Nat, σ54.2.1 35 a = (x : Int) ∧ (T55 x).1 = 31 := wf_35 w60 ha
        have hk82o : OB T55 x80 1 := ⟨by omega, by rw [hk82]; rfl, by omega⟩
        refine tn_getR (ci := 5) (i := 2) (n := 35) (x := x80) dX5_choice_80 rfl lay_5 (by decide) fl5_47 ha rfl rfl (rc_F F78 (Or.inl (by decide)) (by decide) (hx81)) ?_
        refine tn_bipush dX5_choice_83 (by decide) ?_
        refine tn_iload_n dX5_choice_85 rfl 0 rfl ?_
        refine tn_iconst dX5_choice_86 ?_
        have q88 : σ72.2.1 6 x80 = σ54.2.1 6 x80 := rc_F F78 (Or.inl (by decide)) (by decide) (rfl)
        refine tn_callV (M := m_X5_choice) (pc := 87) (ix := 139) (ci := 1) (M' := m_X1_append) (As := [.int (iI 8), .int (iI v76), .int (iI 0)]) (rest := []) dX5_choice_87 ok_X1_append im_X1_append se_X1_append ml5_139 np_X1_append rfl rfl hk82o rfl (Nat.le_of_ble_eq_true rfl) (Nat.le_of_ble_eq_true rfl) rfl (k_X1_append (d + 3 * lv + 57) (T := T55) (σ := σ72) (a := x80) (k := 8) (x := v76) (y := 0) hk82o hk82 (by decide) (by omega) (by decide) w77 (RP.cnt rp79 w77 ha (rc_F F78 (Or.inl (by decide)) (by decide) (hx81)) (by omega)) (by omega)) (fun r84 T86 σ85 gt87 hp => ?_)
        obtain ⟨rfl, w91, F92, f89⟩ := hp
        replace ha : OB T86 a 5 := gt87.ob ha
        have rp93 : RP σ85 a (kp - 4 * v36 - 10 * v59 + 4 + 1) := RP.app rp79 (rc_F F78 (Or.inl (by decide)) (by decide) (hx81)) F92 (by decide) (by decide) (by decide) (by decide) f89
        have rp94 : RP σ85 a (kp - 4 * v36 - 10 * v59 + 5) := RP.up rp93 (by omega)
        show Tn _ _ 90 T86 σ85 [(3, .int (iI v76)), (2, .int (iI v48)), (0, .ref a), (1, .int (iI dp))] [] _
        refine tn_aload_n dX5_choice_90 rfl 2 rfl ?_
        obtain ⟨x95, hx96, hk97⟩ : ∃ x : Nat, σ85.2.1 35 a = (x : Int) ∧ (T86 x).1 = 31 := wf_35 w91 ha
        have hk97o : OB T86 x95 1 := ⟨by omega, by rw [hk97]; rfl, by omega⟩
        refine tn_getR (ci := 5) (i := 2) (n := 35) (x := x95) dX5_choice_91 rfl lay_5 (by decide) fl5_47 ha rfl rfl (hx96) ?_
        refine tn_bipush dX5_choice_94 (by decide) ?_
        refine tn_iload_n dX5_choice_96 rfl 1 rfl ?_
        refine tn_iconst dX5_choice_97 ?_
        refine tn_callV (M := m_X5_choice) (pc := 98) (ix := 139) (ci := 1) (M' := m_X1_append) (As := [.int (iI 13), .int (iI v48), .int (iI 0)]) (rest := []) dX5_choice_98 ok_X1_append im_X1_append se_X1_append ml5_139 np_X1_append rfl rfl hk97o rfl (Nat.le_of_ble_eq_true rfl) (Nat.le_of_ble_eq_true rfl) rfl (k_X1_append (d + 3 * lv + 57) (T := T86) (σ := σ85) (a := x95) (k := 13) (x := v48) (y := 0) hk97o hk97 (by decide) (by omega) (by decide) w91 (RP.cnt rp94 w91 ha (hx96) (by omega)) (by omega)) (fun r99 T101 σ100 gt102 hp => ?_)
        obtain ⟨rfl, w105, F106, f103⟩ := hp
        replace ha : OB T101 a 5 := gt102.ob ha
        have rp107 : RP σ100 a (kp - 4 * v36 - 10 * v59 + 5 + 1) := RP.app rp94 (hx96) F106 (by decide) (by decide) (by decide) (by decide) f103
        have rp108 : RP σ100 a (kp - 4 * v36 - 10 * v59 + 6) := RP.up rp107 (by omega)
        show Tn _ _ 101 T101 σ100 [(3, .int (iI v76)), (2, .int (iI v48)), (0, .ref a), (1, .int (iI dp))] [] _
        refine tn_aload_n dX5_choice_101 rfl 2 rfl ?_
        obtain ⟨x109, hx110, hk111⟩ : ∃ x : Nat, σ100.2.1 33 a = (x : Int) ∧ (T101 x).1 = 39 := wf_33 w105 ha
        have hk111o : OB T101 x109 9 := ⟨by omega, by rw [hk111]; rfl, by omega⟩
        refine tn_getR (ci := 5) (i := 0) (n := 33) (x := x109) dX5_choice_102 rfl lay_5 (by decide) fl5_12 ha rfl rfl (hx110) ?_
        refine tn_callV (M := m_X5_choice) (pc := 105) (ix := 93) (ci := 9) (M' := m_X9_next) (As := []) (rest := []) dX5_choice_105 ok_X9_next im_X9_next se_X9_next ml5_93 np_X9_next rfl rfl hk111o rfl (Nat.le_of_ble_eq_true rfl) (Nat.le_of_ble_eq_true rfl) rfl (k_X9_next (d + 3 * lv + 59) (T := T101) (σ := σ100) (a := x109) hk111o w105 (RP.tk rp108 w105 ha (hx110))) (fun r113 T115 σ114 gt116 hp => ?_)
        obtain ⟨rfl, rfl, w121, F122, f117, f118, f119⟩ := hp
        clear gt116
        have rp123 : RP σ114 a (kp - 4 * v36 - 10 * v59 + 6) := RP.next rp108 (hx110) F122 (by decide) (by decide) (by decide) f117 f118
        show Tn _ _ 108 T101 σ114 [(3, .int (iI v76)), (2, .int (iI v48)), (0, .ref a), (1, .int (iI dp))] [] _
        refine tn_aload_n dX5_choice_108 rfl 2 rfl ?_
        refine tn_iload_n dX5_choice_109 rfl 3 rfl ?_
        refine tn_iconst dX5_choice_110 ?_
        refine tn_iadd dX5_choice_111 ?_
        refine tn_callV (M := m_X5_choice) (pc := 112) (ix := 79) (ci := 5) (M' := m_X5_block) (As := [.int (iI (dp + 1))]) (rest := []) dX5_choice_112 ok_X5_block im_X5_block se_X5_block ml5_79 np_X5_block rfl rfl ha rfl (Nat.le_of_ble_eq_true rfl) (Nat.le_of_ble_eq_true rfl) rfl (hex (d) (T := T101) (σ := σ114) (a := a) (dp := dp + 1) (kp := kp - 4 * v36 - 10 * v59 + 6) ha (by omega) w121 (by omega) (by omega) (by omega) rp123) (fun r124 T126 σ125 gt127 hp => ?_)
        obtain ⟨v130, rfl, w131, F132, f128, f129⟩ := hp
        replace ha : OB T126 a 5 := gt127.ob ha
        have rp134 : RP σ125 a (kp - 4 * v36 - 10 * v59 - 10 * v130 + 8) := RP.up f129 (by omega)
        show Tn _ _ 115 T126 σ125 [(3, .int (iI v76)), (2, .int (iI v48)), (0, .ref a), (1, .int (iI dp))] [.int (iI v130)] _
        refine tn_if_ne (tgt := 120) dX5_choice_115 (by decide) ⟨by omega, by omega⟩ (fun h135 => ?_) (fun h135 => ?_)
        · refine tn_aload_n dX5_choice_120 rfl 2 rfl ?_
          obtain ⟨x136, hx137, hk138⟩ : ∃ x : Nat, σ125.2.1 35 a = (x : Int) ∧ (T126 x).1 = 31 := wf_35 w131 ha
          have hk138o : OB T126 x136 1 := ⟨by omega, by rw [hk138]; rfl, by omega⟩
          refine tn_getR (ci := 5) (i := 2) (n := 35) (x := x136) dX5_choice_121 rfl lay_5 (by decide) fl5_47 ha rfl rfl (hx137) ?_
          refine tn_bipush dX5_choice_124 (by decide) ?_
          refine tn_iload_n dX5_choice_126 rfl 0 rfl ?_
          refine tn_iconst dX5_choice_127 ?_
          refine tn_callV (M := m_X5_choice) (pc := 128) (ix := 139) (ci := 1) (M' := m_X1_append) (As := [.int (iI 13), .int (iI v76), .int (iI 0)]) (rest := []) dX5_choice_128 ok_X1_append im_X1_append se_X1_append ml5_139 np_X1_append rfl rfl hk138o rfl (Nat.le_of_ble_eq_true rfl) (Nat.le_of_ble_eq_true rfl) rfl (k_X1_append (d + 3 * lv + 57) (T := T126) (σ := σ125) (a := x136) (k := 13) (x := v76) (y := 0) hk138o hk138 (by decide) (by omega) (by decide) w131 (RP.cnt rp134 w131 ha (hx137) (by omega)) (by omega)) (fun r140 T142 σ141 gt143 hp => ?_)
          obtain ⟨rfl, w146, F147, f144⟩ := hp
          replace ha : OB T142 a 5 := gt143.ob ha
          have rp148 : RP σ141 a (kp - 4 * v36 - 10 * v59 - 10 * v130 + 8 + 1) := RP.app rp134 (hx137) F147 (by decide) (by decide) (by decide) (by decide) f144
          have rp149 : RP σ141 a (kp - 4 * v36 - 10 * v59 - 10 * v130 + 9) := RP.up rp148 (by omega)
          show Tn _ _ 131 T142 σ141 [(3, .int (iI v76)), (2, .int (iI v48)), (0, .ref a), (1, .int (iI dp))] [] _
          refine tn_iconst dX5_choice_131 ?_
          exact tn_zret (v := 1) rfl (by decide) dX5_choice_132 ⟨_, rfl, w146, (((((((((((FrC.rfl.trans (FrC.sub F13 (by decide))).trans (FrC.sub (FrC.old F28 gt9) (by decide))).trans (FrC.sub (FrC.old F38 gt9) (by decide))).trans (FrC.sub (FrC.old F50 (GT.trans gt9 gt33)) (by decide))).trans (FrC.sub (FrC.old F61 (GT.trans (GT.trans gt9 gt33) gt45)) (by decide))).trans (FrC.sub (FrC.old F78 (GT.trans (GT.trans (GT.trans gt9 gt33) gt45) gt56)) (by decide))).trans (FrC.sub (FrC.old F92 (GT.trans (GT.trans (GT.trans gt9 gt33) gt45) gt56)) (by decide))).trans (FrC.sub (FrC.old F106 (GT.trans (GT.trans (GT.trans (GT.trans gt9 gt33) gt45) gt56) gt87)) (by decide))).trans (FrC.sub (FrC.old F122 (GT.trans (GT.trans (GT.trans (GT.trans (GT.trans gt9 gt33) gt45) gt56) gt87) gt102)) (by decide))).trans (FrC.sub (FrC.old F132 (GT.trans (GT.trans (GT.trans (GT.trans (GT.trans gt9 gt33) gt45) gt56) gt87) gt102)) (by decide))).trans (FrC.sub (FrC.old F147 (GT.trans (GT.trans (GT.trans (GT.trans (GT.trans (GT.trans gt9 gt33) gt45) gt56) gt87) gt102) gt127)) (by decide))), by omega, (RP.up rp149 (by omega))⟩
        · refine tn_iconst dX5_choice_118 ?_
          exact tn_zret (v := 0) rfl (by decide) dX5_choice_119 ⟨_, rfl, w131, ((((((((((FrC.rfl.trans (FrC.sub F13 (by decide))).trans (FrC.sub (FrC.old F28 gt9) (by decide))).trans (FrC.sub (FrC.old F38 gt9) (by decide))).trans (FrC.sub (FrC.old F50 (GT.trans gt9 gt33)) (by decide))).trans (FrC.sub (FrC.old F61 (GT.trans (GT.trans gt9 gt33) gt45)) (by decide))).trans (FrC.sub (FrC.old F78 (GT.trans (GT.trans (GT.trans gt9 gt33) gt45) gt56)) (by decide))).trans (FrC.sub (FrC.old F92 (GT.trans (GT.trans (GT.trans gt9 gt33) gt45) gt56)) (by decide))).trans (FrC.sub (FrC.old F106 (GT.trans (GT.trans (GT.trans (GT.trans gt9 gt33) gt45) gt56) gt87)) (by decide))).trans (FrC.sub (FrC.old F122 (GT.trans (GT.trans (GT.trans (GT.trans (GT.trans gt9 gt33) gt45) gt56) gt87) gt102)) (by decide))).trans (FrC.sub (FrC.old F132 (GT.trans (GT.trans (GT.trans (GT.trans (GT.trans gt9 gt33) gt45) gt56) gt87) gt102)) (by decide))), by omega, (RP.up rp134 (by omega))⟩
      · refine tn_aload_n dX5_choice_61 rfl 1 rfl ?_
        obtain ⟨x150, hx151, hk152⟩ : ∃ x : Nat, σ54.2.1 35 a = (x : Int) ∧ (T55 x).1 = 31 := wf_35 w60 ha
        have hk152o : OB T55 x150 1 := ⟨by omega, by rw [hk152]; rfl, by omega⟩
        refine tn_getR (ci := 5) (i := 2) (n := 35) (x := x150) dX5_choice_62 rfl lay_5 (by decide) fl5_47 ha rfl rfl (hx151) ?_
        refine tn_bipush dX5_choice_65 (by decide) ?_
        refine tn_iload_n dX5_choice_67 rfl 0 rfl ?_
        refine tn_iconst dX5_choice_68 ?_
        refine tn_callV (M := m_X5_choice) (pc := 69) (ix := 139) (ci := 1) (M' := m_X1_append) (As := [.int (iI 13), .int (iI v48), .int (iI 0)]) (rest := []) dX5_choice_69 ok_X1_append im_X1_append se_X1_append ml5_139 np_X1_append rfl rfl hk152o rfl (Nat.le_of_ble_eq_true rfl) (Nat.le_of_ble_eq_true rfl) rfl (k_X1_append (d + 3 * lv + 57) (T := T55) (σ := σ54) (a := x150) (k := 13) (x := v48) (y := 0) hk152o hk152 (by decide) (by omega) (by decide) w60 (RP.cnt rp63 w60 ha (hx151) (by omega)) (by omega)) (fun r154 T156 σ155 gt157 hp => ?_)
        obtain ⟨rfl, w160, F161, f158⟩ := hp
        replace ha : OB T156 a 5 := gt157.ob ha
        have rp162 : RP σ155 a (kp - 4 * v36 - 10 * v59 + 4 + 1) := RP.app rp63 (hx151) F161 (by decide) (by decide) (by decide) (by decide) f158
        have rp163 : RP σ155 a (kp - 4 * v36 - 10 * v59 + 5) := RP.up rp162 (by omega)
        show Tn _ _ 72 T156 σ155 [(2, .int (iI v48)), (0, .ref a), (1, .int (iI dp))] [] _
        refine tn_iconst dX5_choice_72 ?_
        exact tn_zret (v := 1) rfl (by decide) dX5_choice_73 ⟨_, rfl, w160, ((((((FrC.rfl.trans (FrC.sub F13 (by decide))).trans (FrC.sub (FrC.old F28 gt9) (by decide))).trans (FrC.sub (FrC.old F38 gt9) (by decide))).trans (FrC.sub (FrC.old F50 (GT.trans gt9 gt33)) (by decide))).trans (FrC.sub (FrC.old F61 (GT.trans (GT.trans gt9 gt33) gt45)) (by decide))).trans (FrC.sub (FrC.old F161 (GT.trans (GT.trans (GT.trans gt9 gt33) gt45) gt56)) (by decide))), by omega, (RP.up rp163 (by omega))⟩
    · refine tn_iconst dX5_choice_46 ?_
      exact tn_zret (v := 0) rfl (by decide) dX5_choice_47 ⟨_, rfl, w60, (((((FrC.rfl.trans (FrC.sub F13 (by decide))).trans (FrC.sub (FrC.old F28 gt9) (by decide))).trans (FrC.sub (FrC.old F38 gt9) (by decide))).trans (FrC.sub (FrC.old F50 (GT.trans gt9 gt33)) (by decide))).trans (FrC.sub (FrC.old F61 (GT.trans (GT.trans gt9 gt33) gt45)) (by decide))), by omega, (RP.up rp63 (by omega))⟩
  · refine tn_iconst dX5_choice_29 ?_
    exact tn_zret (v := 0) rfl (by decide) dX5_choice_30 ⟨_, rfl, w37, (((FrC.rfl.trans (FrC.sub F13 (by decide))).trans (FrC.sub (FrC.old F28 gt9) (by decide))).trans (FrC.sub (FrC.old F38 gt9) (by decide))), by omega, (RP.up rp40 (by omega))⟩
end
section
theorem cd_X5_ring : Cond.code yX5_ring cX5_ring 4 (some .boolean) ∈ pWW := pw3 (List.mem_of_getElem? (i := 225) rfl) rfl
abbrev m_X5_ring : MT := (yX5_ring, cX5_ring, 4, (some .boolean))
theorem ok_X5_ring : pOk m_X5_ring := ⟨⟨cd_X5_ring, ini_5⟩, by decide +kernel, ⟨by decide +kernel, by decide +kernel⟩, Nat.le_of_ble_eq_true rfl⟩
theorem np_X5_ring : (parseMethodDescriptor yX5_ring.desc).map (fun d => d.parameters.length) = some 1 := by decide +kernel
theorem im_X5_ring : Cond.instanceMethod yX5_ring ∈ pWW := pw3 (List.mem_of_getElem? (i := 224) rfl) rfl
theorem se_X5_ring : Cond.selects RX5 yX5_ring yX5_ring ∈ pWW := pws (List.mem_map.mpr ⟨_, lw_pin 30 rfl, rfl⟩) rfl
theorem dX5_ring_0 : decode cX5_ring 0 = .ok (.aload_n 0, 1) := by decide +kernel
theorem dX5_ring_1 : decode cX5_ring 1 = .ok (.invokevirtual 238, 3) := by decide +kernel
theorem dX5_ring_4 : decode cX5_ring 4 = .ok (.istore_n 2, 1) := by decide +kernel
theorem dX5_ring_5 : decode cX5_ring 5 = .ok (.aload_n 0, 1) := by decide +kernel
theorem dX5_ring_6 : decode cX5_ring 6 = .ok (.getfield 47, 3) := by decide +kernel
theorem dX5_ring_9 : decode cX5_ring 9 = .ok (.bipush 13, 2) := by decide +kernel
theorem dX5_ring_11 : decode cX5_ring 11 = .ok (.iload_n 2, 1) := by decide +kernel
theorem dX5_ring_12 : decode cX5_ring 12 = .ok (.iconst 0, 1) := by decide +kernel
theorem dX5_ring_13 : decode cX5_ring 13 = .ok (.invokevirtual 139, 3) := by decide +kernel
theorem dX5_ring_16 : decode cX5_ring 16 = .ok (.aload_n 0, 1) := by decide +kernel
theorem dX5_ring_17 : decode cX5_ring 17 = .ok (.getfield 47, 3) := by decide +kernel
theorem dX5_ring_20 : decode cX5_ring 20 = .ok (.bipush 11, 2) := by decide +kernel
theorem dX5_ring_22 : decode cX5_ring 22 = .ok (.aload_n 0, 1) := by decide +kernel
theorem dX5_ring_23 : decode cX5_ring 23 = .ok (.getfield 64, 3) := by decide +kernel
theorem dX5_ring_26 : decode cX5_ring 26 = .ok (.iconst 0, 1) := by decide +kernel
theorem dX5_ring_27 : decode cX5_ring 27 = .ok (.invokevirtual 139, 3) := by decide +kernel
theorem dX5_ring_30 : decode cX5_ring 30 = .ok (.aload_n 0, 1) := by decide +kernel
theorem dX5_ring_31 : decode cX5_ring 31 = .ok (.getfield 12, 3) := by decide +kernel
theorem dX5_ring_34 : decode cX5_ring 34 = .ok (.invokevirtual 93, 3) := by decide +kernel
theorem dX5_ring_37 : decode cX5_ring 37 = .ok (.aload_n 0, 1) := by decide +kernel
theorem dX5_ring_38 : decode cX5_ring 38 = .ok (.iconst 1, 1) := by decide +kernel
theorem dX5_ring_39 : decode cX5_ring 39 = .ok (.invokevirtual 213, 3) := by decide +kernel
theorem dX5_ring_42 : decode cX5_ring 42 = .ok (.ifCond .ne 5, 3) := by decide +kernel
theorem dX5_ring_47 : decode cX5_ring 47 = .ok (.aload_n 0, 1) := by decide +kernel
theorem dX5_ring_48 : decode cX5_ring 48 = .ok (.invokevirtual 235, 3) := by decide +kernel
theorem dX5_ring_51 : decode cX5_ring 51 = .ok (.istore_n 3, 1) := by decide +kernel
theorem dX5_ring_52 : decode cX5_ring 52 = .ok (.aload_n 0, 1) := by decide +kernel
theorem dX5_ring_53 : decode cX5_ring 53 = .ok (.iload_n 1, 1) := by decide +kernel
theorem dX5_ring_54 : decode cX5_ring 54 = .ok (.iconst 1, 1) := by decide +kernel
theorem dX5_ring_55 : decode cX5_ring 55 = .ok (.iadd, 1) := by decide +kernel
theorem dX5_ring_56 : decode cX5_ring 56 = .ok (.invokevirtual 79, 3) := by decide +kernel
theorem dX5_ring_59 : decode cX5_ring 59 = .ok (.ifCond .ne 5, 3) := by decide +kernel
theorem dX5_ring_64 : decode cX5_ring 64 = .ok (.aload_n 0, 1) := by decide +kernel
theorem dX5_ring_65 : decode cX5_ring 65 = .ok (.getfield 47, 3) := by decide +kernel
theorem dX5_ring_68 : decode cX5_ring 68 = .ok (.bipush 8, 2) := by decide +kernel
theorem dX5_ring_70 : decode cX5_ring 70 = .ok (.iload_n 2, 1) := by decide +kernel
theorem dX5_ring_71 : decode cX5_ring 71 = .ok (.iconst 0, 1) := by decide +kernel
theorem dX5_ring_72 : decode cX5_ring 72 = .ok (.invokevirtual 139, 3) := by decide +kernel
theorem dX5_ring_75 : decode cX5_ring 75 = .ok (.aload_n 0, 1) := by decide +kernel
theorem dX5_ring_76 : decode cX5_ring 76 = .ok (.getfield 47, 3) := by decide +kernel
theorem dX5_ring_79 : decode cX5_ring 79 = .ok (.bipush 13, 2) := by decide +kernel
theorem dX5_ring_81 : decode cX5_ring 81 = .ok (.iload_n 3, 1) := by decide +kernel
theorem dX5_ring_82 : decode cX5_ring 82 = .ok (.iconst 0, 1) := by decide +kernel
theorem dX5_ring_83 : decode cX5_ring 83 = .ok (.invokevirtual 139, 3) := by decide +kernel
theorem dX5_ring_86 : decode cX5_ring 86 = .ok (.iconst 1, 1) := by decide +kernel
theorem dX5_ring_87 : decode cX5_ring 87 = .ok (.ireturn, 1) := by decide +kernel
theorem dX5_ring_62 : decode cX5_ring 62 = .ok (.iconst 0, 1) := by decide +kernel
theorem dX5_ring_63 : decode cX5_ring 63 = .ok (.ireturn, 1) := by decide +kernel
theorem dX5_ring_45 : decode cX5_ring 45 = .ok (.iconst 0, 1) := by decide +kernel
theorem dX5_ring_46 : decode cX5_ring 46 = .ok (.ireturn, 1) := by decide +kernel
set_option maxRecDepth 20000 in
theorem k_X5_ring (d : Nat) {T : CT} {σ : MS} {a : Nat} {dp : Int} {kp : Int} {lv : Nat} (ha : OB T a 5) (h_dp : -2147483648 ≤ dp ∧ dp ≤ 2147483647) (hw : WT T σ) (hex : ∀ (d : Nat) {T : CT} {σ : MS} {a : Nat} {dp : Int} {kp : Int} (ha : OB T a 5) (h_dp : -2147483648 ≤ dp ∧ dp ≤ 2147483647) (hw : WT T σ) (hdp : 0 ≤ dp ∧ dp ≤ 7) (hlv : 7 ≤ dp + (lv : Int)) (hkp : kp ≤ 140) (hrp : RP σ a kp), Tn (d + 3 * lv + 60) m_X5_block 0 T σ [(0, .ref a), (1, .int (iI dp))] [] (fun ro T2 σ2 => ∃ v : Int, ro = some (.int (iI v)) ∧ WT T2 σ2 ∧ FrC T [5, 6, 7, 9, 42, 43, 44, 45, 46, 47, 50, 51, 84, 85, 86, 87, 518, 519, 520, 521] σ σ2 ∧ (v = 0 ∨ v = 1) ∧ (RP σ2 a (kp + 2 - 10 * v)))) (hdp : 0 ≤ dp ∧ dp ≤ 6) (hlv : 6 ≤ dp + (lv : Int)) (hkp : kp ≤ 140) (hrp : RP σ a kp) : Tn (d + 3 * lv + 61) m_X5_ring 0 T σ [(0, .ref a), (1, .int (iI dp))] [] (fun ro T2 σ2 => ∃ v : Int, ro = some (.int (iI v)) ∧ WT T2 σ2 ∧ FrC T [5, 6, 7, 9, 42, 43, 44, 45, 46, 47, 50, 51, 84, 85, 86, 87, 518, 519, 520, 521] σ σ2 ∧ (v = 0 ∨ v = 1) ∧ (RP σ2 a (kp + 2 - 9 * v))) := by
  refine tn_aload_n dX5_ring_0 rfl 0 rfl ?_
  refine tn_callV (M := m_X5_ring) (pc := 1) (ix := 238) (ci := 5) (M' := m_X5_newLabel) (As := []) (rest := []) dX5_ring_1 ok_X5_newLabel im_X5_newLabel se_X5_newLabel ml5_238 np_X5_newLabel rfl rfl ha rfl (Nat.le_of_ble_eq_true rfl) (Nat.le_of_ble_eq_true rfl) rfl (k_X5_newLabel (d + 3 * lv + 59) (T := T) (σ := σ) (a := a) ha hw ) (fun r1 T3 σ2 gt4 hp => ?_)
  obtain ⟨v6, rfl, rfl, w7, F8, f5⟩ := hp
  clear gt4
  have rp9 : RP σ2 a (kp) := RP.frc hrp F8 (by decide) (by decide) (by decide) (by decide) (by decide)
  show Tn _ _ 4 T σ2 [(0, .ref a), (1, .int (iI dp))] [.int (iI v6)] _
  refine tn_istore_n (L' := [(2, .int (iI v6)), (0, .ref a), (1, .int (iI dp))]) dX5_ring_4 rfl (by decide) rfl ?_
  refine tn_aload_n dX5_ring_5 rfl 1 rfl ?_
  obtain ⟨x10, hx11, hk12⟩ : ∃ x : Nat, σ.2.1 35 a = (x : Int) ∧ (T x).1 = 31 := wf_35 hw ha
  have hk12o : OB T x10 1 := ⟨by omega, by rw [hk12]; rfl, by omega⟩
  refine tn_getR (ci := 5) (i := 2) (n := 35) (x := x10) dX5_ring_6 rfl lay_5 (by decide) fl5_47 ha rfl rfl (rc_F F8 (Or.inl (by decide)) (by decide) (hx11)) ?_
  refine tn_bipush dX5_ring_9 (by decide) ?_
  refine tn_iload_n dX5_ring_11 rfl 0 rfl ?_
  refine tn_iconst dX5_ring_12 ?_
  have q18 : σ2.2.1 6 x10 = σ.2.1 6 x10 := rc_F F8 (Or.inl (by decide)) (by decide) (rfl)
  refine tn_callV (M := m_X5_ring) (pc := 13) (ix := 139) (ci := 1) (M' := m_X1_append) (As := [.int (iI 13), .int (iI v6), .int (iI 0)]) (rest := []) dX5_ring_13 ok_X1_append im_X1_append se_X1_append ml5_139 np_X1_append rfl rfl hk12o rfl (Nat.le_of_ble_eq_true rfl) (Nat.le_of_ble_eq_true rfl) rfl (k_X1_append (d + 3 * lv + 57) (T := T) (σ := σ2) (a := x10) (k := 13) (x := v6) (y := 0) hk12o hk12 (by decide) (by omega) (by decide) w7 (RP.cnt rp9 w7 ha (rc_F F8 (Or.inl (by decide)) (by decide) (hx11)) (by omega)) (by omega)) (fun r14 T16 σ15 gt17 hp => ?_)
  obtain ⟨rfl, w21, F22, f19⟩ := hp
  replace ha : OB T16 a 5 := gt17.ob ha
  have rp23 : RP σ15 a (kp + 1) := RP.app rp9 (rc_F F8 (Or.inl (by decide)) (by decide) (hx11)) F22 (by decide) (by decide) (by decide) (by decide) f19
  show Tn _ _ 16 T16 σ15 [(2, .int (iI v6)), (0, .ref a), (1, .int (iI dp))] [] _
  refine tn_aload_n dX5_ring_16 rfl 1 rfl ?_
  obtain ⟨x24, hx25, hk26⟩ : ∃ x : Nat, σ15.2.1 35 a = (x : Int) ∧ (T16 x).1 = 31 := wf_35 w21 ha
  have hk26o : OB T16 x24 1 := ⟨by omega, by rw [hk26]; rfl, by omega⟩
  refine tn_getR (ci := 5) (i := 2) (n := 35) (x := x24) dX5_ring_17 rfl lay_5 (by decide) fl5_47 ha rfl rfl (hx25) ?_
  refine tn_bipush dX5_ring_20 (by decide) ?_
  refine tn_aload_n dX5_ring_22 rfl 1 rfl ?_
  refine tn_getI (ci := 5) (i := 12) (n := 45) (t := σ15.2.1 45 a) dX5_ring_23 rfl lay_5 (by decide) fl5_64 ha rfl rfl (rfl) ?_
  have g28 : ((-2147483648 : Int) ≤ σ15.2.1 45 a ∧ σ15.2.1 45 a ≤ 2147483647) := wf_45 w21 ha
  refine tn_iconst dX5_ring_26 ?_
  refine tn_callV (M := m_X5_ring) (pc := 27) (ix := 139) (ci := 1) (M' := m_X1_append) (As := [.int (iI 11), .int (iI (σ15.2.1 45 a)), .int (iI 0)]) (rest := []) dX5_ring_27 ok_X1_append im_X1_append se_X1_append ml5_139 np_X1_append rfl rfl hk26o rfl (Nat.le_of_ble_eq_true rfl) (Nat.le_of_ble_eq_true rfl) rfl (k_X1_append (d + 3 * lv + 57) (T := T16) (σ := σ15) (a := x24) (k := 11) (x := σ15.2.1 45 a) (y := 0) hk26o hk26 (by decide) (by omega) (by decide) w21 (RP.cnt rp23 w21 ha (hx25) (by omega)) (by omega)) (fun r29 T31 σ30 gt32 hp => ?_)
  obtain ⟨rfl, w35, F36, f33⟩ := hp
  replace ha : OB T31 a 5 := gt32.ob ha
  have rp37 : RP σ30 a (kp + 1 + 1) := RP.app rp23 (hx25) F36 (by decide) (by decide) (by decide) (by decide) f33
  have rp38 : RP σ30 a (kp + 2) := RP.up rp37 (by omega)
  show Tn _ _ 30 T31 σ30 [(2, .int (iI v6)), (0, .ref a), (1, .int (iI dp))] [] _
  refine tn_aload_n dX5_ring_30 rfl 1 rfl ?_
  obtain ⟨x39, hx40, hk41⟩ : ∃ x : Nat, σ30.2.1 33 a = (x : Int) ∧ (T31 x).1 = 39 := wf_33 w35 ha
  have hk41o : OB T31 x39 9 := ⟨by omega, by rw [hk41]; rfl, by omega⟩
  refine tn_getR (ci := 5) (i := 0) (n := 33) (x := x39) dX5_ring_31 rfl lay_5 (by decide) fl5_12 ha rfl rfl (hx40) ?_
  refine tn_callV (M := m_X5_ring) (pc := 34) (ix := 93) (ci := 9) (M' := m_X9_next) (As := []) (rest := []) dX5_ring_34 ok_X9_next im_X9_next se_X9_next ml5_93 np_X9_next rfl rfl hk41o rfl (Nat.le_of_ble_eq_true rfl) (Nat.le_of_ble_eq_true rfl) rfl (k_X9_next (d + 3 * lv + 59) (T := T31) (σ := σ30) (a := x39) hk41o w35 (RP.tk rp38 w35 ha (hx40))) (fun r43 T45 σ44 gt46 hp => ?_)
  obtain ⟨rfl, rfl, w51, F52, f47, f48, f49⟩ := hp
  clear gt46
  have rp53 : RP σ44 a (kp + 2) := RP.next rp38 (hx40) F52 (by decide) (by decide) (by decide) f47 f48
  show Tn _ _ 37 T31 σ44 [(2, .int (iI v6)), (0, .ref a), (1, .int (iI dp))] [] _
  refine tn_aload_n dX5_ring_37 rfl 1 rfl ?_
  refine tn_iconst dX5_ring_38 ?_
  refine tn_callV (M := m_X5_ring) (pc := 39) (ix := 213) (ci := 5) (M' := m_X5_expression) (As := [.int (iI 1)]) (rest := []) dX5_ring_39 ok_X5_expression im_X5_expression se_X5_expression ml5_213 np_X5_expression rfl rfl ha rfl (Nat.le_of_ble_eq_true rfl) (Nat.le_of_ble_eq_true rfl) rfl (k_X5_expression (d + 3 * lv + 10) (T := T31) (σ := σ44) (a := a) (dp := 1) (kp := kp + 2) ha (by decide) w51 (by omega) (by omega) rp53) (fun r54 T56 σ55 gt57 hp => ?_)
  obtain ⟨v60, rfl, w61, F62, f58, f59⟩ := hp
  replace ha : OB T56 a 5 := gt57.ob ha
  have rp64 : RP σ55 a (kp - 4 * v60 + 2) := RP.up f59 (by omega)
  show Tn _ _ 42 T56 σ55 [(2, .int (iI v6)), (0, .ref a), (1, .int (iI dp))] [.int (iI v60)] _
  refine tn_if_ne (tgt := 47) dX5_ring_42 (by decide) ⟨by omega, by omega⟩ (fun h65 => ?_) (fun h65 => ?_)
  · refine tn_aload_n dX5_ring_47 rfl 1 rfl ?_
    refine tn_callV (M := m_X5_ring) (pc := 48) (ix := 235) (ci := 5) (M' := m_X5_zeroToNew) (As := []) (rest := []) dX5_ring_48 ok_X5_zeroToNew im_X5_zeroToNew se_X5_zeroToNew ml5_235 np_X5_zeroToNew rfl rfl ha rfl (Nat.le_of_ble_eq_true rfl) (Nat.le_of_ble_eq_true rfl) rfl (k_X5_zeroToNew (d + 3 * lv + 56) (T := T56) (σ := σ55) (a := a) (kp := kp - 4 * v60 + 2) ha w61 (by omega) rp64) (fun r66 T68 σ67 gt69 hp => ?_)
    obtain ⟨v72, rfl, w73, F74, f70, f71⟩ := hp
    replace ha : OB T68 a 5 := gt69.ob ha
    have rp76 : RP σ67 a (kp - 4 * v60 + 3) := RP.up f71 (by omega)
    show Tn _ _ 51 T68 σ67 [(2, .int (iI v6)), (0, .ref a), (1, .int (iI dp))] [.int (iI v72)] _
    refine tn_istore_n (L' := [(3, .int (iI v72)), (2, .int (iI v6)), (0, .ref a), (1, .int (iI dp))]) dX5_ring_51 rfl (by decide) rfl ?_
    refine tn_aload_n dX5_ring_52 rfl 2 rfl ?_
    refine tn_iload_n dX5_ring_53 rfl 3 rfl ?_
    refine tn_iconst dX5_ring_54 ?_
    refine tn_iadd dX5_ring_55 ?_
    refine tn_callV (M := m_X5_ring) (pc := 56) (ix := 79) (ci := 5) (M' := m_X5_block) (As := [.int (iI (dp + 1))]) (rest := []) dX5_ring_56 ok_X5_block im_X5_block se_X5_block ml5_79 np_X5_block rfl rfl ha rfl (Nat.le_of_ble_eq_true rfl) (Nat.le_of_ble_eq_true rfl) rfl (hex (d) (T := T68) (σ := σ67) (a := a) (dp := dp + 1) (kp := kp - 4 * v60 + 3) ha (by omega) w73 (by omega) (by omega) (by omega) rp76) (fun r77 T79 σ78 gt80 hp => ?_)
    obtain ⟨v83, rfl, w84, F85, f81, f82⟩ := hp
    replace ha : OB T79 a 5 := gt80.ob ha
    have rp87 : RP σ78 a (kp - 4 * v60 - 10 * v83 + 5) := RP.up f82 (by omega)
    show Tn _ _ 59 T79 σ78 [(3, .int (iI v72)), (2, .int (iI v6)), (0, .ref a), (1, .int (iI dp))] [.int (iI v83)] _
    refine tn_if_ne (tgt := 64) dX5_ring_59 (by decide) ⟨by omega, by omega⟩ (fun h88 => ?_) (fun h88 => ?_)
    · refine tn_aload_n dX5_ring_64 rfl 2 rfl ?_
      obtain ⟨x89, hx90, hk91⟩ : ∃ x : Nat, σ78.2.1 35 a = (x : Int) ∧ (T79 x).1 = 31 := wf_35 w84 ha
      have hk91o : OB T79 x89 1 := ⟨by omega, by rw [hk91]; rfl, by omega⟩
      refine tn_getR (ci := 5) (i := 2) (n := 35) (x := x89) dX5_ring_65 rfl lay_5 (by decide) fl5_47 ha rfl rfl (hx90) ?_
      refine tn_bipush dX5_ring_68 (by decide) ?_
      refine tn_iload_n dX5_ring_70 rfl 1 rfl ?_
      refine tn_iconst dX5_ring_71 ?_
      refine tn_callV (M := m_X5_ring) (pc := 72) (ix := 139) (ci := 1) (M' := m_X1_append) (As := [.int (iI 8), .int (iI v6), .int (iI 0)]) (rest := []) dX5_ring_72 ok_X1_append im_X1_append se_X1_append ml5_139 np_X1_append rfl rfl hk91o rfl (Nat.le_of_ble_eq_true rfl) (Nat.le_of_ble_eq_true rfl) rfl (k_X1_append (d + 3 * lv + 57) (T := T79) (σ := σ78) (a := x89) (k := 8) (x := v6) (y := 0) hk91o hk91 (by decide) (by omega) (by decide) w84 (RP.cnt rp87 w84 ha (hx90) (by omega)) (by omega)) (fun r93 T95 σ94 gt96 hp => ?_)
      obtain ⟨rfl, w99, F100, f97⟩ := hp
      replace ha : OB T95 a 5 := gt96.ob ha
      have rp101 : RP σ94 a (kp - 4 * v60 - 10 * v83 + 5 + 1) := RP.app rp87 (hx90) F100 (by decide) (by decide) (by decide) (by decide) f97
      have rp102 : RP σ94 a (kp - 4 * v60 - 10 * v83 + 6) := RP.up rp101 (by omega)
      show Tn _ _ 75 T95 σ94 [(3, .int (iI v72)), (2, .int (iI v6)), (0, .ref a), (1, .int (iI dp))] [] _
      refine tn_aload_n dX5_ring_75 rfl 2 rfl ?_
      obtain ⟨x103, hx104, hk105⟩ : ∃ x : Nat, σ94.2.1 35 a = (x : Int) ∧ (T95 x).1 = 31 := wf_35 w99 ha
      have hk105o : OB T95 x103 1 := ⟨by omega, by rw [hk105]; rfl, by omega⟩
      refine tn_getR (ci := 5) (i := 2) (n := 35) (x := x103) dX5_ring_76 rfl lay_5 (by decide) fl5_47 ha rfl rfl (hx104) ?_
      refine tn_bipush dX5_ring_79 (by decide) ?_
      refine tn_iload_n dX5_ring_81 rfl 0 rfl ?_
      refine tn_iconst dX5_ring_82 ?_
      refine tn_callV (M := m_X5_ring) (pc := 83) (ix := 139) (ci := 1) (M' := m_X1_append) (As := [.int (iI 13), .int (iI v72), .int (iI 0)]) (rest := []) dX5_ring_83 ok_X1_append im_X1_append se_X1_append ml5_139 np_X1_append rfl rfl hk105o rfl (Nat.le_of_ble_eq_true rfl) (Nat.le_of_ble_eq_true rfl) rfl (k_X1_append (d + 3 * lv + 57) (T := T95) (σ := σ94) (a := x103) (k := 13) (x := v72) (y := 0) hk105o hk105 (by decide) (by omega) (by decide) w99 (RP.cnt rp102 w99 ha (hx104) (by omega)) (by omega)) (fun r107 T109 σ108 gt110 hp => ?_)
      obtain ⟨rfl, w113, F114, f111⟩ := hp
      replace ha : OB T109 a 5 := gt110.ob ha
      have rp115 : RP σ108 a (kp - 4 * v60 - 10 * v83 + 6 + 1) := RP.app rp102 (hx104) F114 (by decide) (by decide) (by decide) (by decide) f111
      have rp116 : RP σ108 a (kp - 4 * v60 - 10 * v83 + 7) := RP.up rp115 (by omega)
      show Tn _ _ 86 T109 σ108 [(3, .int (iI v72)), (2, .int (iI v6)), (0, .ref a), (1, .int (iI dp))] [] _
      refine tn_iconst dX5_ring_86 ?_
      exact tn_zret (v := 1) rfl (by decide) dX5_ring_87 ⟨_, rfl, w113, (((((((((FrC.rfl.trans (FrC.sub F8 (by decide))).trans (FrC.sub F22 (by decide))).trans (FrC.sub (FrC.old F36 gt17) (by decide))).trans (FrC.sub (FrC.old F52 (GT.trans gt17 gt32)) (by decide))).trans (FrC.sub (FrC.old F62 (GT.trans gt17 gt32)) (by decide))).trans (FrC.sub (FrC.old F74 (GT.trans (GT.trans gt17 gt32) gt57)) (by decide))).trans (FrC.sub (FrC.old F85 (GT.trans (GT.trans (GT.trans gt17 gt32) gt57) gt69)) (by decide))).trans (FrC.sub (FrC.old F100 (GT.trans (GT.trans (GT.trans (GT.trans gt17 gt32) gt57) gt69) gt80)) (by decide))).trans (FrC.sub (FrC.old F114 (GT.trans (GT.trans (GT.trans (GT.trans (GT.trans gt17 gt32) gt57) gt69) gt80) gt96)) (by decide))), by omega, (RP.up rp116 (by omega))⟩
    · refine tn_iconst dX5_ring_62 ?_
      exact tn_zret (v := 0) rfl (by decide) dX5_ring_63 ⟨_, rfl, w84, (((((((FrC.rfl.trans (FrC.sub F8 (by decide))).trans (FrC.sub F22 (by decide))).trans (FrC.sub (FrC.old F36 gt17) (by decide))).trans (FrC.sub (FrC.old F52 (GT.trans gt17 gt32)) (by decide))).trans (FrC.sub (FrC.old F62 (GT.trans gt17 gt32)) (by decide))).trans (FrC.sub (FrC.old F74 (GT.trans (GT.trans gt17 gt32) gt57)) (by decide))).trans (FrC.sub (FrC.old F85 (GT.trans (GT.trans (GT.trans gt17 gt32) gt57) gt69)) (by decide))), by omega, (RP.up rp87 (by omega))⟩
  · refine tn_iconst dX5_ring_45 ?_
    exact tn_zret (v := 0) rfl (by decide) dX5_ring_46 ⟨_, rfl, w61, (((((FrC.rfl.trans (FrC.sub F8 (by decide))).trans (FrC.sub F22 (by decide))).trans (FrC.sub (FrC.old F36 gt17) (by decide))).trans (FrC.sub (FrC.old F52 (GT.trans gt17 gt32)) (by decide))).trans (FrC.sub (FrC.old F62 (GT.trans gt17 gt32)) (by decide))), by omega, (RP.up rp64 (by omega))⟩
end
