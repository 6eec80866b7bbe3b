theorem cd_X5_sum : Cond.code yX5_sum cX5_sum 6 (some .boolean) ∈ pWW := pw3 (List.mem_of_getElem? (i := 169) rfl) rfl
abbrev m_X5_sum : MT := (yX5_sum, cX5_sum, 6, (some .boolean))
theorem ok_X5_sum : pOk m_X5_sum := ⟨⟨cd_X5_sum, ini_5⟩, by decide +kernel, ⟨by decide +kernel, by decide +kernel⟩, Nat.le_of_ble_eq_true rfl⟩
theorem np_X5_sum : (parseMethodDescriptor yX5_sum.desc).map (fun d => d.parameters.length) = some 1 := by decide +kernel
theorem im_X5_sum : Cond.instanceMethod yX5_sum ∈ pWW := pw3 (List.mem_of_getElem? (i := 168) rfl) rfl
theorem se_X5_sum : Cond.selects RX5 yX5_sum yX5_sum ∈ pWW := pws (List.mem_map.mpr ⟨_, lw_pin 19 rfl, rfl⟩) rfl
theorem ml5_247 : Cond.methodLink RX5 247 yX5_term ∈ pWW := pw3 (List.mem_of_getElem? (i := 170) rfl) rfl
theorem dX5_sum_0 : decode cX5_sum 0 = .ok (.aload_n 0, 1) := by decide +kernel
theorem dX5_sum_1 : decode cX5_sum 1 = .ok (.iload_n 1, 1) := by decide +kernel
theorem dX5_sum_2 : decode cX5_sum 2 = .ok (.invokevirtual 247, 3) := by decide +kernel
theorem dX5_sum_5 : decode cX5_sum 5 = .ok (.ifCond .ne 5, 3) := by decide +kernel
theorem dX5_sum_10 : decode cX5_sum 10 = .ok (.iconst 0, 1) := by decide +kernel
theorem dX5_sum_11 : decode cX5_sum 11 = .ok (.istore_n 2, 1) := by decide +kernel
theorem dX5_sum_12 : decode cX5_sum 12 = .ok (.iload_n 2, 1) := by decide +kernel
theorem dX5_sum_13 : decode cX5_sum 13 = .ok (.sipush 1200, 3) := by decide +kernel
theorem dX5_sum_16 : decode cX5_sum 16 = .ok (.if_icmp .ge 89, 3) := by decide +kernel
theorem dX5_sum_19 : decode cX5_sum 19 = .ok (.aload_n 0, 1) := by decide +kernel
theorem dX5_sum_20 : decode cX5_sum 20 = .ok (.getfield 12, 3) := by decide +kernel
theorem dX5_sum_23 : decode cX5_sum 23 = .ok (.getfield 71, 3) := by decide +kernel
theorem dX5_sum_26 : decode cX5_sum 26 = .ok (.bipush 43, 2) := by decide +kernel
theorem dX5_sum_28 : decode cX5_sum 28 = .ok (.if_icmp .eq 15, 3) := by decide +kernel
theorem dX5_sum_43 : decode cX5_sum 43 = .ok (.aload_n 0, 1) := by decide +kernel
theorem dX5_sum_44 : decode cX5_sum 44 = .ok (.getfield 12, 3) := by decide +kernel
theorem dX5_sum_47 : decode cX5_sum 47 = .ok (.getfield 71, 3) := by decide +kernel
theorem dX5_sum_50 : decode cX5_sum 50 = .ok (.bipush 43, 2) := by decide +kernel
theorem dX5_sum_52 : decode cX5_sum 52 = .ok (.if_icmp .ne 7, 3) := by decide +kernel
theorem dX5_sum_55 : decode cX5_sum 55 = .ok (.iconst 1, 1) := by decide +kernel
theorem dX5_sum_56 : decode cX5_sum 56 = .ok (.goto 4, 3) := by decide +kernel
theorem dX5_sum_60 : decode cX5_sum 60 = .ok (.istore_n 3, 1) := by decide +kernel
theorem dX5_sum_61 : decode cX5_sum 61 = .ok (.aload_n 0, 1) := by decide +kernel
theorem dX5_sum_62 : decode cX5_sum 62 = .ok (.getfield 216, 3) := by decide +kernel
theorem dX5_sum_65 : decode cX5_sum 65 = .ok (.istore 4, 2) := by decide +kernel
theorem dX5_sum_67 : decode cX5_sum 67 = .ok (.aload_n 0, 1) := by decide +kernel
theorem dX5_sum_68 : decode cX5_sum 68 = .ok (.getfield 219, 3) := by decide +kernel
theorem dX5_sum_71 : decode cX5_sum 71 = .ok (.istore 5, 2) := by decide +kernel
theorem dX5_sum_73 : decode cX5_sum 73 = .ok (.aload_n 0, 1) := by decide +kernel
theorem dX5_sum_74 : decode cX5_sum 74 = .ok (.getfield 12, 3) := by decide +kernel
theorem dX5_sum_77 : decode cX5_sum 77 = .ok (.invokevirtual 93, 3) := by decide +kernel
theorem dX5_sum_80 : decode cX5_sum 80 = .ok (.aload_n 0, 1) := by decide +kernel
theorem dX5_sum_81 : decode cX5_sum 81 = .ok (.iload_n 1, 1) := by decide +kernel
theorem dX5_sum_82 : decode cX5_sum 82 = .ok (.invokevirtual 247, 3) := by decide +kernel
theorem dX5_sum_85 : decode cX5_sum 85 = .ok (.ifCond .ne 5, 3) := by decide +kernel
theorem dX5_sum_90 : decode cX5_sum 90 = .ok (.aload_n 0, 1) := by decide +kernel
theorem dX5_sum_91 : decode cX5_sum 91 = .ok (.iload_n 3, 1) := by decide +kernel
theorem dX5_sum_92 : decode cX5_sum 92 = .ok (.iload 4, 2) := by decide +kernel
theorem dX5_sum_94 : decode cX5_sum 94 = .ok (.iload 5, 2) := by decide +kernel
theorem dX5_sum_96 : decode cX5_sum 96 = .ok (.invokevirtual 244, 3) := by decide +kernel
theorem dX5_sum_99 : decode cX5_sum 99 = .ok (.iinc 2 1, 3) := by decide +kernel
theorem dX5_sum_102 : decode cX5_sum 102 = .ok (.goto (-90), 3) := by decide +kernel
theorem dX5_sum_31 : decode cX5_sum 31 = .ok (.aload_n 0, 1) := by decide +kernel
theorem dX5_sum_32 : decode cX5_sum 32 = .ok (.getfield 12, 3) := by decide +kernel
theorem dX5_sum_35 : decode cX5_sum 35 = .ok (.getfield 71, 3) := by decide +kernel
theorem dX5_sum_38 : decode cX5_sum 38 = .ok (.bipush 45, 2) := by decide +kernel
theorem dX5_sum_40 : decode cX5_sum 40 = .ok (.if_icmp .ne 65, 3) := by decide +kernel
theorem dX5_sum_59 : decode cX5_sum 59 = .ok (.iconst 2, 1) := by decide +kernel
set_option maxRecDepth 20000 in
theorem l_X5_sum_12 (d : Nat) {T0 : CT} {σ0 : MS} {a : Nat} {c1 : Int} {kp : Int} {lv : Nat} {post : Option Value → CT → MS → Prop} (r_c1 : 0 ≤ c1 ∧ c1 ≤ 8) (hw0 : WT T0 σ0) (hlv : 8 ≤ c1 + (lv : Int)) (hkp : kp ≤ 150) (hex : ∀ (d : Nat) {T : CT} {σ : MS} {a : Nat} {dp : Int} {kp : Int} (ha : OB T a 5) (h_dp : -2147483648 ≤ dp ∧ dp ≤ 2147483647) (hw : WT T σ) (hdp : 0 ≤ dp ∧ dp ≤ 9) (hlv : 9 ≤ dp + (lv : Int)) (hkp : kp ≤ 150) (hrp : RP σ a kp), Tn (d + 5 * lv + 10) m_X5_expression 0 T σ [(0, .ref a), (1, .int (iI dp))] [] (fun ro T2 σ2 => ∃ v : Int, ro = some (.int (iI v)) ∧ WT T2 σ2 ∧ FrC T [5, 6, 7, 43, 44, 47, 50, 51, 84, 85, 86, 87, 521] σ σ2 ∧ (v = 0 ∨ v = 1) ∧ (RP σ2 a (kp - 4 * v)))) (hx_88 : ∀ (T : CT) (i2 : Int) (σ : MS) , (GT T0 T) → (WT T σ) → (FrC T0 [5, 6, 7, 43, 44, 47, 50, 51, 84, 85, 86, 87, 521] σ0 σ) → (OB T a 5) → (0 ≤ i2 ∧ i2 ≤ 2147483647) → (RP σ a kp) → Tn (d + 5 * lv + 14) m_X5_sum 88 T σ [(0, .ref a), (1, .int (iI c1)), (2, .int (iI i2))] [] post) (hx_105 : ∀ (T : CT) (i2 : Int) (σ : MS) , (GT T0 T) → (WT T σ) → (FrC T0 [5, 6, 7, 43, 44, 47, 50, 51, 84, 85, 86, 87, 521] σ0 σ) → (OB T a 5) → (0 ≤ i2 ∧ i2 ≤ 2147483647) → (RP σ a kp) → Tn (d + 5 * lv + 14) m_X5_sum 105 T σ [(0, .ref a), (1, .int (iI c1)), (2, .int (iI i2))] [] post) : ∀ (n : Nat) (T : CT) (i2 : Int) (σ : MS) , (GT T0 T) → (WT T σ) → (FrC T0 [5, 6, 7, 43, 44, 47, 50, 51, 84, 85, 86, 87, 521] σ0 σ) → (OB T a 5) → (0 ≤ i2 ∧ i2 ≤ 2147483647) → (RP σ a kp) → (2147483700 - i2).toNat = n → Tn (d + 5 * lv + 14) m_X5_sum 12 T σ [(0, .ref a), (1, .int (iI c1)), (2, .int (iI i2))] [] post := by
  intro n
  induction n using Nat.strongRecOn with
  | _ n ih =>
    intro T i2 σ hG hw hF h_a r_i2 hrp hm
    refine tn_iload_n dX5_sum_12 rfl 2 rfl ?_
    refine tn_sipush dX5_sum_13 (by decide) ?_
    refine tn_icmp_ge (tgt := 105) dX5_sum_16 (by decide) ⟨by omega, by omega⟩ ⟨by decide, by decide⟩ (fun h1 => ?_) (fun h1 => ?_)
    · exact tn_sub [0, 1, 2] rfl (hx_105 T (i2) σ hG hw (FrC.rfl.trans (FrC.sub hF (by decide))) h_a (by omega) (RP.up hrp (by omega)))
    · refine tn_aload_n dX5_sum_19 rfl 0 rfl ?_
      obtain ⟨x2, hx3, hk4⟩ : ∃ x : Nat, σ.2.1 33 a = (x : Int) ∧ (T x).1 = 39 := wf_33 hw h_a
      have hk4o : OB T x2 9 := ⟨by omega, by rw [hk4]; rfl, by omega⟩
      refine tn_getR (ci := 5) (i := 0) (n := 33) (x := x2) dX5_sum_20 rfl lay_5 (by decide) fl5_12 h_a rfl rfl (hx3) ?_
      refine tn_getI (ci := 9) (i := 4) (n := 85) (t := σ.2.1 85 x2) dX5_sum_23 rfl lay_9 (by decide) fl5_71 hk4o rfl rfl (rfl) ?_
      have g6 : ((-2147483648 : Int) ≤ σ.2.1 85 x2 ∧ σ.2.1 85 x2 ≤ 2147483647) := wf_85 hw hk4o
      refine tn_bipush dX5_sum_26 (by decide) ?_
      refine tn_icmp_eq (tgt := 43) dX5_sum_28 (by decide) ⟨by omega, by omega⟩ ⟨by decide, by decide⟩ (fun h7 => ?_) (fun h7 => ?_)
      · refine tn_aload_n dX5_sum_43 rfl 0 rfl ?_
        refine tn_getR (ci := 5) (i := 0) (n := 33) (x := x2) dX5_sum_44 rfl lay_5 (by decide) fl5_12 h_a rfl rfl (hx3) ?_
        refine tn_getI (ci := 9) (i := 4) (n := 85) (t := σ.2.1 85 x2) dX5_sum_47 rfl lay_9 (by decide) fl5_71 hk4o rfl rfl (rfl) ?_
        refine tn_bipush dX5_sum_50 (by decide) ?_
        refine tn_icmp_ne (tgt := 59) dX5_sum_52 (by decide) ⟨by omega, by omega⟩ ⟨by decide, by decide⟩ (fun h8 => absurd h8 (by omega)) (fun h8 => ?_)
        refine tn_iconst dX5_sum_55 ?_
        refine tn_goto (tgt := 60) dX5_sum_56 (by decide) ?_
        refine tn_istore_n (L' := [(3, .int (iI 1)), (0, .ref a), (1, .int (iI c1)), (2, .int (iI i2))]) dX5_sum_60 rfl (by decide) rfl ?_
        refine tn_aload_n dX5_sum_61 rfl 1 rfl ?_
        refine tn_getI (ci := 5) (i := 17) (n := 50) (t := σ.2.1 50 a) dX5_sum_62 rfl lay_5 (by decide) fl5_216 h_a rfl rfl (rfl) ?_
        have g9 : ((-2147483648 : Int) ≤ σ.2.1 50 a ∧ σ.2.1 50 a ≤ 2147483647) := wf_50 hw h_a
        refine tn_istore (L' := [(4, .int (iI (σ.2.1 50 a))), (3, .int (iI 1)), (0, .ref a), (1, .int (iI c1)), (2, .int (iI i2))]) dX5_sum_65 (by decide) rfl ?_
        refine tn_aload_n dX5_sum_67 rfl 2 rfl ?_
        refine tn_getI (ci := 5) (i := 18) (n := 51) (t := σ.2.1 51 a) dX5_sum_68 rfl lay_5 (by decide) fl5_219 h_a rfl rfl (rfl) ?_
        have g10 : ((-2147483648 : Int) ≤ σ.2.1 51 a ∧ σ.2.1 51 a ≤ 2147483647) := wf_51 hw h_a
        refine tn_istore (L' := [(5, .int (iI (σ.2.1 51 a))), (4, .int (iI (σ.2.1 50 a))), (3, .int (iI 1)), (0, .ref a), (1, .int (iI c1)), (2, .int (iI i2))]) dX5_sum_71 (by decide) rfl ?_
        refine tn_aload_n dX5_sum_73 rfl 3 rfl ?_
        refine tn_getR (ci := 5) (i := 0) (n := 33) (x := x2) dX5_sum_74 rfl lay_5 (by decide) fl5_12 h_a rfl rfl (hx3) ?_
        refine tn_callV (M := m_X5_sum) (pc := 77) (ix := 93) (ci := 9) (M' := m_X9_next) (As := []) (rest := []) dX5_sum_77 ok_X9_next im_X9_next se_X9_next ml5_93 np_X9_next rfl rfl hk4o rfl (Nat.le_of_ble_eq_true rfl) (Nat.le_of_ble_eq_true rfl) rfl (k_X9_next (d + 5 * lv + 12) (T := T) (σ := σ) (a := x2) hk4o hw (RP.tk hrp hw h_a (hx3))) (fun r11 T13 σ12 gt14 hp => ?_)
        obtain ⟨rfl, rfl, w19, F20, f15, f16, f17⟩ := hp
        clear gt14
        have rp21 : RP σ12 a (kp - 4) := RP.next4 hrp (hx3) F20 (by decide) (by decide) (by decide) f15 f17 (by rw [show σ.2.1 85 x2 = σ.2.1 85 x2 from rfl]; omega)
        show Tn _ _ 80 T σ12 [(5, .int (iI (σ.2.1 51 a))), (4, .int (iI (σ.2.1 50 a))), (3, .int (iI 1)), (0, .ref a), (1, .int (iI c1)), (2, .int (iI i2))] [] _
        refine tn_aload_n dX5_sum_80 rfl 3 rfl ?_
        refine tn_iload_n dX5_sum_81 rfl 4 rfl ?_
        refine tn_callV (M := m_X5_sum) (pc := 82) (ix := 247) (ci := 5) (M' := m_X5_term) (As := [.int (iI c1)]) (rest := []) dX5_sum_82 ok_X5_term im_X5_term se_X5_term ml5_247 np_X5_term rfl rfl h_a rfl (Nat.le_of_ble_eq_true rfl) (Nat.le_of_ble_eq_true rfl) rfl (k_X5_term (d) (T := T) (σ := σ12) (a := a) (dp := c1) (kp := kp - 4) (lv := lv) h_a (by omega) w19 hex (by omega) (by omega) (by omega) rp21) (fun r22 T24 σ23 gt25 hp => ?_)
        obtain ⟨v28, rfl, w29, F30, f26, f27⟩ := hp
        replace h_a : OB T24 a 5 := gt25.ob h_a
        have rp32 : RP σ23 a (kp - 4 * v28 - 4) := RP.up f27 (by omega)
        show Tn _ _ 85 T24 σ23 [(5, .int (iI (σ.2.1 51 a))), (4, .int (iI (σ.2.1 50 a))), (3, .int (iI 1)), (0, .ref a), (1, .int (iI c1)), (2, .int (iI i2))] [.int (iI v28)] _
        refine tn_if_ne (tgt := 90) dX5_sum_85 (by decide) ⟨by omega, by omega⟩ (fun h33 => ?_) (fun h33 => ?_)
        · refine tn_aload_n dX5_sum_90 rfl 3 rfl ?_
          refine tn_iload_n dX5_sum_91 rfl 2 rfl ?_
          refine tn_iload dX5_sum_92 1 rfl ?_
          refine tn_iload dX5_sum_94 0 rfl ?_
          refine tn_callV (M := m_X5_sum) (pc := 96) (ix := 244) (ci := 5) (M' := m_X5_join) (As := [.int (iI 1), .int (iI (σ.2.1 50 a)), .int (iI (σ.2.1 51 a))]) (rest := []) dX5_sum_96 ok_X5_join im_X5_join se_X5_join ml5_244 np_X5_join rfl rfl h_a rfl (Nat.le_of_ble_eq_true rfl) (Nat.le_of_ble_eq_true rfl) rfl (k_X5_join (d + 5 * lv + 9) (T := T24) (σ := σ23) (a := a) (k := 1) (e := σ.2.1 50 a) (l := σ.2.1 51 a) (kp := kp - 4 * v28 - 4) h_a (by decide) (by omega) (by omega) w29 (by omega) (by omega) rp32) (fun r34 T36 σ35 gt37 hp => ?_)
          obtain ⟨rfl, w40, F41, f38⟩ := hp
          replace h_a : OB T36 a 5 := gt37.ob h_a
          have rp43 : RP σ35 a (kp - 4 * v28 - 3) := RP.up f38 (by omega)
          show Tn _ _ 99 T36 σ35 [(5, .int (iI (σ.2.1 51 a))), (4, .int (iI (σ.2.1 50 a))), (3, .int (iI 1)), (0, .ref a), (1, .int (iI c1)), (2, .int (iI i2))] [] _
          refine tn_iinc (q0 := 5) (L' := [(2, .int (iI (i2 + 1))), (5, .int (iI (σ.2.1 51 a))), (4, .int (iI (σ.2.1 50 a))), (3, .int (iI 1)), (0, .ref a), (1, .int (iI c1))]) dX5_sum_99 rfl (by decide) rfl ?_
          refine tn_goto (tgt := 12) dX5_sum_102 (by decide) ?_
          exact tn_sub [4, 5, 0] rfl (ih _ (by omega) T36 (i2 + 1) σ35 (GT.trans (GT.trans hG gt25) gt37) w40 ((((FrC.rfl.trans (FrC.sub hF (by decide))).trans (FrC.sub (FrC.old F20 hG) (by decide))).trans (FrC.sub (FrC.old F30 hG) (by decide))).trans (FrC.sub (FrC.old F41 (GT.trans hG gt25)) (by decide))) h_a (by omega) (RP.up rp43 (by omega)) rfl)
        · exact tn_sub [3, 4, 5] rfl (hx_88 T24 (i2) σ23 (GT.trans hG gt25) w29 (((FrC.rfl.trans (FrC.sub hF (by decide))).trans (FrC.sub (FrC.old F20 hG) (by decide))).trans (FrC.sub (FrC.old F30 hG) (by decide))) h_a (by omega) (RP.up rp32 (by omega)))
      · refine tn_aload_n dX5_sum_31 rfl 0 rfl ?_
        refine tn_getR (ci := 5) (i := 0) (n := 33) (x := x2) dX5_sum_32 rfl lay_5 (by decide) fl5_12 h_a rfl rfl (hx3) ?_
        refine tn_getI (ci := 9) (i := 4) (n := 85) (t := σ.2.1 85 x2) dX5_sum_35 rfl lay_9 (by decide) fl5_71 hk4o rfl rfl (rfl) ?_
        refine tn_bipush dX5_sum_38 (by decide) ?_
        refine tn_icmp_ne (tgt := 105) dX5_sum_40 (by decide) ⟨by omega, by omega⟩ ⟨by decide, by decide⟩ (fun h44 => ?_) (fun h44 => ?_)
        · exact tn_sub [0, 1, 2] rfl (hx_105 T (i2) σ hG hw (FrC.rfl.trans (FrC.sub hF (by decide))) h_a (by omega) (RP.up hrp (by omega)))
        · refine tn_aload_n dX5_sum_43 rfl 0 rfl ?_
          refine tn_getR (ci := 5) (i := 0) (n := 33) (x := x2) dX5_sum_44 rfl lay_5 (by decide) fl5_12 h_a rfl rfl (hx3) ?_
          refine tn_getI (ci := 9) (i := 4) (n := 85) (t := σ.2.1 85 x2) dX5_sum_47 rfl lay_9 (by decide) fl5_71 hk4o rfl rfl (rfl) ?_
          refine tn_bipush dX5_sum_50 (by decide) ?_
          refine tn_icmp_ne (tgt := 59) dX5_sum_52 (by decide) ⟨by omega, by omega⟩ ⟨by decide, by decide⟩ (fun h45 => ?_) (fun h45 => absurd h45 (by omega))
          refine tn_iconst dX5_sum_59 ?_
          refine tn_istore_n (L' := [(3, .int (iI 2)), (0, .ref a), (1, .int (iI c1)), (2, .int (iI i2))]) dX5_sum_60 rfl (by decide) rfl ?_
          refine tn_aload_n dX5_sum_61 rfl 1 rfl ?_
          refine tn_getI (ci := 5) (i := 17) (n := 50) (t := σ.2.1 50 a) dX5_sum_62 rfl lay_5 (by decide) fl5_216 h_a rfl rfl (rfl) ?_
          have g46 : ((-2147483648 : Int) ≤ σ.2.1 50 a ∧ σ.2.1 50 a ≤ 2147483647) := wf_50 hw h_a
          refine tn_istore (L' := [(4, .int (iI (σ.2.1 50 a))), (3, .int (iI 2)), (0, .ref a), (1, .int (iI c1)), (2, .int (iI i2))]) dX5_sum_65 (by decide) rfl ?_
          refine tn_aload_n dX5_sum_67 rfl 2 rfl ?_
          refine tn_getI (ci := 5) (i := 18) (n := 51) (t := σ.2.1 51 a) dX5_sum_68 rfl lay_5 (by decide) fl5_219 h_a rfl rfl (rfl) ?_
          have g47 : ((-2147483648 : Int) ≤ σ.2.1 51 a ∧ σ.2.1 51 a ≤ 2147483647) := wf_51 hw h_a
          refine tn_istore (L' := [(5, .int (iI (σ.2.1 51 a))), (4, .int (iI (σ.2.1 50 a))), (3, .int (iI 2)), (0, .ref a), (1, .int (iI c1)), (2, .int (iI i2))]) dX5_sum_71 (by decide) rfl ?_
          refine tn_aload_n dX5_sum_73 rfl 3 rfl ?_
          refine tn_getR (ci := 5) (i := 0) (n := 33) (x := x2) dX5_sum_74 rfl lay_5 (by decide) fl5_12 h_a rfl rfl (hx3) ?_
          refine tn_callV (M := m_X5_sum) (pc := 77) (ix := 93) (ci := 9) (M' := m_X9_next) (As := []) (rest := []) dX5_sum_77 ok_X9_next im_X9_next se_X9_next ml5_93 np_X9_next rfl rfl hk4o rfl (Nat.le_of_ble_eq_true rfl) (Nat.le_of_ble_eq_true rfl) rfl (k_X9_next (d + 5 * lv + 12) (T := T) (σ := σ) (a := x2) hk4o hw (RP.tk hrp hw h_a (hx3))) (fun r48 T50 σ49 gt51 hp => ?_)
          obtain ⟨rfl, rfl, w56, F57, f52, f53, f54⟩ := hp
          clear gt51
          have rp58 : RP σ49 a (kp - 4) := RP.next4 hrp (hx3) F57 (by decide) (by decide) (by decide) f52 f54 (by rw [show σ.2.1 85 x2 = σ.2.1 85 x2 from rfl]; omega)
          show Tn _ _ 80 T σ49 [(5, .int (iI (σ.2.1 51 a))), (4, .int (iI (σ.2.1 50 a))), (3, .int (iI 2)), (0, .ref a), (1, .int (iI c1)), (2, .int (iI i2))] [] _
          refine tn_aload_n dX5_sum_80 rfl 3 rfl ?_
          refine tn_iload_n dX5_sum_81 rfl 4 rfl ?_
          refine tn_callV (M := m_X5_sum) (pc := 82) (ix := 247) (ci := 5) (M' := m_X5_term) (As := [.int (iI c1)]) (rest := []) dX5_sum_82 ok_X5_term im_X5_term se_X5_term ml5_247 np_X5_term rfl rfl h_a rfl (Nat.le_of_ble_eq_true rfl) (Nat.le_of_ble_eq_true rfl) rfl (k_X5_term (d) (T := T) (σ := σ49) (a := a) (dp := c1) (kp := kp - 4) (lv := lv) h_a (by omega) w56 hex (by omega) (by omega) (by omega) rp58) (fun r59 T61 σ60 gt62 hp => ?_)
          obtain ⟨v65, rfl, w66, F67, f63, f64⟩ := hp
          replace h_a : OB T61 a 5 := gt62.ob h_a
          have rp69 : RP σ60 a (kp - 4 * v65 - 4) := RP.up f64 (by omega)
          show Tn _ _ 85 T61 σ60 [(5, .int (iI (σ.2.1 51 a))), (4, .int (iI (σ.2.1 50 a))), (3, .int (iI 2)), (0, .ref a), (1, .int (iI c1)), (2, .int (iI i2))] [.int (iI v65)] _
          refine tn_if_ne (tgt := 90) dX5_sum_85 (by decide) ⟨by omega, by omega⟩ (fun h70 => ?_) (fun h70 => ?_)
          · refine tn_aload_n dX5_sum_90 rfl 3 rfl ?_
            refine tn_iload_n dX5_sum_91 rfl 2 rfl ?_
            refine tn_iload dX5_sum_92 1 rfl ?_
            refine tn_iload dX5_sum_94 0 rfl ?_
            refine tn_callV (M := m_X5_sum) (pc := 96) (ix := 244) (ci := 5) (M' := m_X5_join) (As := [.int (iI 2), .int (iI (σ.2.1 50 a)), .int (iI (σ.2.1 51 a))]) (rest := []) dX5_sum_96 ok_X5_join im_X5_join se_X5_join ml5_244 np_X5_join rfl rfl h_a rfl (Nat.le_of_ble_eq_true rfl) (Nat.le_of_ble_eq_true rfl) rfl (k_X5_join (d + 5 * lv + 9) (T := T61) (σ := σ60) (a := a) (k := 2) (e := σ.2.1 50 a) (l := σ.2.1 51 a) (kp := kp - 4 * v65 - 4) h_a (by decide) (by omega) (by omega) w66 (by omega) (by omega) rp69) (fun r71 T73 σ72 gt74 hp => ?_)
            obtain ⟨rfl, w77, F78, f75⟩ := hp
            replace h_a : OB T73 a 5 := gt74.ob h_a
            have rp80 : RP σ72 a (kp - 4 * v65 - 3) := RP.up f75 (by omega)
            show Tn _ _ 99 T73 σ72 [(5, .int (iI (σ.2.1 51 a))), (4, .int (iI (σ.2.1 50 a))), (3, .int (iI 2)), (0, .ref a), (1, .int (iI c1)), (2, .int (iI i2))] [] _
            refine tn_iinc (q0 := 5) (L' := [(2, .int (iI (i2 + 1))), (5, .int (iI (σ.2.1 51 a))), (4, .int (iI (σ.2.1 50 a))), (3, .int (iI 2)), (0, .ref a), (1, .int (iI c1))]) dX5_sum_99 rfl (by decide) rfl ?_
            refine tn_goto (tgt := 12) dX5_sum_102 (by decide) ?_
            exact tn_sub [4, 5, 0] rfl (ih _ (by omega) T73 (i2 + 1) σ72 (GT.trans (GT.trans hG gt62) gt74) w77 ((((FrC.rfl.trans (FrC.sub hF (by decide))).trans (FrC.sub (FrC.old F57 hG) (by decide))).trans (FrC.sub (FrC.old F67 hG) (by decide))).trans (FrC.sub (FrC.old F78 (GT.trans hG gt62)) (by decide))) h_a (by omega) (RP.up rp80 (by omega)) rfl)
          · exact tn_sub [3, 4, 5] rfl (hx_88 T61 (i2) σ60 (GT.trans hG gt62) w66 (((FrC.rfl.trans (FrC.sub hF (by decide))).trans (FrC.sub (FrC.old F57 hG) (by decide))).trans (FrC.sub (FrC.old F67 hG) (by decide))) h_a (by omega) (RP.up rp69 (by omega)))
theorem dX5_sum_88 : decode cX5_sum 88 = .ok (.iconst 0, 1) := by decide +kernel
theorem dX5_sum_89 : decode cX5_sum 89 = .ok (.ireturn, 1) := by decide +kernel
theorem dX5_sum_105 : decode cX5_sum 105 = .ok (.iconst 1, 1) := by decide +kernel
theorem dX5_sum_106 : decode cX5_sum 106 = .ok (.ireturn, 1) := by decide +kernel
theorem dX5_sum_8 : decode cX5_sum 8 = .ok (.iconst 0, 1) := by decide +kernel
theorem dX5_sum_9 : decode cX5_sum 9 = .ok (.ireturn, 1) := by decide +kernel
set_option maxRecDepth 20000 in
theorem k_X5_sum (d : Nat) {T : CT} {σ : MS} {a : Nat} {dp : Int} {kp : Int} {lv : Nat} (ha : OB T a 5) (h_dp : -2147483648 ≤ dp ∧ dp ≤ 2147483647) (hw : WT T σ) (hex : ∀ (d : Nat) {T : CT} {σ : MS} {a : Nat} {dp : Int} {kp : Int} (ha : OB T a 5) (h_dp : -2147483648 ≤ dp ∧ dp ≤ 2147483647) (hw : WT T σ) (hdp : 0 ≤ dp ∧ dp ≤ 9) (hlv : 9 ≤ dp + (lv : Int)) (hkp : kp ≤ 150) (hrp : RP σ a kp), Tn (d + 5 * lv + 10) m_X5_expression 0 T σ [(0, .ref a), (1, .int (iI dp))] [] (fun ro T2 σ2 => ∃ v : Int, ro = some (.int (iI v)) ∧ WT T2 σ2 ∧ FrC T [5, 6, 7, 43, 44, 47, 50, 51, 84, 85, 86, 87, 521] σ σ2 ∧ (v = 0 ∨ v = 1) ∧ (RP σ2 a (kp - 4 * v)))) (hdp : 0 ≤ dp ∧ dp ≤ 8) (hlv : 8 ≤ dp + (lv : Int)) (hkp : kp ≤ 150) (hrp : RP σ a kp) : Tn (d + 5 * lv + 14) m_X5_sum 0 T σ [(0, .ref a), (1, .int (iI dp))] [] (fun ro T2 σ2 => ∃ v : Int, ro = some (.int (iI v)) ∧ WT T2 σ2 ∧ FrC T [5, 6, 7, 43, 44, 47, 50, 51, 84, 85, 86, 87, 521] σ σ2 ∧ (v = 0 ∨ v = 1) ∧ (RP σ2 a (kp - 4 * v))) := by
  refine tn_aload_n dX5_sum_0 rfl 0 rfl ?_
  refine tn_iload_n dX5_sum_1 rfl 1 rfl ?_
  refine tn_callV (M := m_X5_sum) (pc := 2) (ix := 247) (ci := 5) (M' := m_X5_term) (As := [.int (iI dp)]) (rest := []) dX5_sum_2 ok_X5_term im_X5_term se_X5_term ml5_247 np_X5_term rfl rfl ha rfl (Nat.le_of_ble_eq_true rfl) (Nat.le_of_ble_eq_true rfl) rfl (k_X5_term (d) (T := T) (σ := σ) (a := a) (dp := dp) (kp := kp) (lv := lv) ha (by omega) hw hex (by omega) (by omega) (by omega) hrp) (fun r1 T3 σ2 gt4 hp => ?_)
  obtain ⟨v7, rfl, w8, F9, f5, f6⟩ := hp
  replace ha : OB T3 a 5 := gt4.ob ha
  show Tn _ _ 5 T3 σ2 [(0, .ref a), (1, .int (iI dp))] [.int (iI v7)] _
  refine tn_if_ne (tgt := 10) dX5_sum_5 (by decide) ⟨by omega, by omega⟩ (fun h11 => ?_) (fun h11 => ?_)
  · refine tn_iconst dX5_sum_10 ?_
    refine tn_istore_n (L' := [(2, .int (iI 0)), (0, .ref a), (1, .int (iI dp))]) dX5_sum_11 rfl (by decide) rfl ?_
    refine tn_sub [1, 2, 0] rfl (l_X5_sum_12 (d) (σ0 := σ2) (T0 := T3) (a := a) (c1 := dp) (kp := kp - 4 * v7) (lv := lv) (by omega) w8 (by omega) (by omega) hex (fun T14 i212 σ13 gt15 w16 F17 q18 r19 f20 => ?_) (fun T23 i221 σ22 gt24 w25 F26 q27 r28 f29 => ?_) _ T3 (0) σ2 GT.rfl w8 FrC.rfl ha (by omega) f6 rfl)
    · show Tn _ _ 88 T14 σ13 [(0, .ref a), (1, .int (iI dp)), (2, .int (iI i212))] [] _
      refine tn_iconst dX5_sum_88 ?_
      exact tn_zret (v := 0) rfl (by decide) dX5_sum_89 ⟨_, rfl, w16, ((FrC.rfl.trans (FrC.sub F9 (by decide))).trans (FrC.sub (FrC.old F17 gt4) (by decide))), by omega, (RP.up f20 (by omega))⟩
    · show Tn _ _ 105 T23 σ22 [(0, .ref a), (1, .int (iI dp)), (2, .int (iI i221))] [] _
      refine tn_iconst dX5_sum_105 ?_
      exact tn_zret (v := 1) rfl (by decide) dX5_sum_106 ⟨_, rfl, w25, ((FrC.rfl.trans (FrC.sub F9 (by decide))).trans (FrC.sub (FrC.old F26 gt4) (by decide))), by omega, (RP.up f29 (by omega))⟩
  · refine tn_iconst dX5_sum_8 ?_
    exact tn_zret (v := 0) rfl (by decide) dX5_sum_9 ⟨_, rfl, w8, (FrC.rfl.trans (FrC.sub F9 (by decide))), by omega, (RP.up f6 (by omega))⟩
