theorem cd_X9_scan : Cond.code yX9_scan cX9_scan 6 none ∈ pWW := pw3 (List.mem_of_getElem? (i := 28) rfl) rfl
abbrev m_X9_scan : MT := (yX9_scan, cX9_scan, 6, none)
theorem ok_X9_scan : pOk m_X9_scan := ⟨⟨cd_X9_scan, ini_9⟩, by decide +kernel, ⟨by decide +kernel, by decide +kernel⟩, Nat.le_of_ble_eq_true rfl⟩
theorem np_X9_scan : (parseMethodDescriptor yX9_scan.desc).map (fun d => d.parameters.length) = some 2 := by decide +kernel
theorem im_X9_scan : Cond.instanceMethod yX9_scan ∈ pWW := pw3 (List.mem_of_getElem? (i := 26) rfl) rfl
theorem se_X9_scan : Cond.selects RX9 yX9_scan yX9_scan ∈ pWW := pw3 (List.mem_of_getElem? (i := 27) rfl) rfl
theorem mlm9_21 : Cond.methodLink RX9 21 Lib.Math.min.name ∈ pWW := pw3 (List.mem_of_getElem? (i := 29) rfl) rfl
theorem mlm9_27 : Cond.methodLink RX9 27 Lib.Math.max.name ∈ pWW := pw3 (List.mem_of_getElem? (i := 32) rfl) rfl
theorem ml9_37 : Cond.methodLink RX9 37 yX9_scanOne ∈ pWW := pw3 (List.mem_of_getElem? (i := 35) rfl) rfl
theorem ml9_41 : Cond.methodLink RX9 41 yX9_keep ∈ pWW := pw3 (List.mem_of_getElem? (i := 50) rfl) rfl
theorem dX9_scan_0 : decode cX9_scan 0 = .ok (.iconst 0, 1) := by decide +kernel
theorem dX9_scan_1 : decode cX9_scan 1 = .ok (.iload_n 2, 1) := by decide +kernel
theorem dX9_scan_2 : decode cX9_scan 2 = .ok (.aload_n 1, 1) := by decide +kernel
theorem dX9_scan_3 : decode cX9_scan 3 = .ok (.arraylength, 1) := by decide +kernel
theorem dX9_scan_4 : decode cX9_scan 4 = .ok (.invokestatic 21, 3) := by decide +kernel
theorem dX9_scan_7 : decode cX9_scan 7 = .ok (.invokestatic 27, 3) := by decide +kernel
theorem dX9_scan_10 : decode cX9_scan 10 = .ok (.istore_n 3, 1) := by decide +kernel
theorem dX9_scan_11 : decode cX9_scan 11 = .ok (.iconst 0, 1) := by decide +kernel
theorem dX9_scan_12 : decode cX9_scan 12 = .ok (.istore 4, 2) := by decide +kernel
theorem dX9_scan_14 : decode cX9_scan 14 = .ok (.iconst 0, 1) := by decide +kernel
theorem dX9_scan_15 : decode cX9_scan 15 = .ok (.istore 5, 2) := by decide +kernel
theorem dX9_scan_17 : decode cX9_scan 17 = .ok (.aload_n 0, 1) := by decide +kernel
theorem dX9_scan_18 : decode cX9_scan 18 = .ok (.sipush 264, 3) := by decide +kernel
theorem dX9_scan_21 : decode cX9_scan 21 = .ok (.putfield 30, 3) := by decide +kernel
theorem dX9_scan_24 : decode cX9_scan 24 = .ok (.iload 5, 2) := by decide +kernel
theorem dX9_scan_26 : decode cX9_scan 26 = .ok (.iload_n 3, 1) := by decide +kernel
theorem dX9_scan_27 : decode cX9_scan 27 = .ok (.if_icmp .ge 65, 3) := by decide +kernel
theorem dX9_scan_30 : decode cX9_scan 30 = .ok (.aload_n 0, 1) := by decide +kernel
theorem dX9_scan_31 : decode cX9_scan 31 = .ok (.getfield 30, 3) := by decide +kernel
theorem dX9_scan_34 : decode cX9_scan 34 = .ok (.sipush 263, 3) := by decide +kernel
theorem dX9_scan_37 : decode cX9_scan 37 = .ok (.if_icmp .eq 55, 3) := by decide +kernel
theorem dX9_scan_40 : decode cX9_scan 40 = .ok (.aload_n 1, 1) := by decide +kernel
theorem dX9_scan_41 : decode cX9_scan 41 = .ok (.iload 5, 2) := by decide +kernel
theorem dX9_scan_43 : decode cX9_scan 43 = .ok (.baload, 1) := by decide +kernel
theorem dX9_scan_44 : decode cX9_scan 44 = .ok (.bipush 32, 2) := by decide +kernel
theorem dX9_scan_46 : decode cX9_scan 46 = .ok (.if_icmp .eq 12, 3) := by decide +kernel
theorem dX9_scan_58 : decode cX9_scan 58 = .ok (.iinc 5 1, 3) := by decide +kernel
theorem dX9_scan_61 : decode cX9_scan 61 = .ok (.goto (-37), 3) := by decide +kernel
theorem dX9_scan_49 : decode cX9_scan 49 = .ok (.aload_n 1, 1) := by decide +kernel
theorem dX9_scan_50 : decode cX9_scan 50 = .ok (.iload 5, 2) := by decide +kernel
theorem dX9_scan_52 : decode cX9_scan 52 = .ok (.baload, 1) := by decide +kernel
theorem dX9_scan_53 : decode cX9_scan 53 = .ok (.bipush 10, 2) := by decide +kernel
theorem dX9_scan_55 : decode cX9_scan 55 = .ok (.if_icmp .ne 9, 3) := by decide +kernel
theorem dX9_scan_64 : decode cX9_scan 64 = .ok (.aload_n 0, 1) := by decide +kernel
theorem dX9_scan_65 : decode cX9_scan 65 = .ok (.iload 5, 2) := by decide +kernel
theorem dX9_scan_67 : decode cX9_scan 67 = .ok (.putfield 34, 3) := by decide +kernel
theorem dX9_scan_70 : decode cX9_scan 70 = .ok (.aload_n 0, 1) := by decide +kernel
theorem dX9_scan_71 : decode cX9_scan 71 = .ok (.aload_n 1, 1) := by decide +kernel
theorem dX9_scan_72 : decode cX9_scan 72 = .ok (.iload_n 3, 1) := by decide +kernel
theorem dX9_scan_73 : decode cX9_scan 73 = .ok (.iload 5, 2) := by decide +kernel
theorem dX9_scan_75 : decode cX9_scan 75 = .ok (.invokevirtual 37, 3) := by decide +kernel
theorem dX9_scan_78 : decode cX9_scan 78 = .ok (.istore 5, 2) := by decide +kernel
theorem dX9_scan_80 : decode cX9_scan 80 = .ok (.aload_n 0, 1) := by decide +kernel
theorem dX9_scan_81 : decode cX9_scan 81 = .ok (.iload 4, 2) := by decide +kernel
theorem dX9_scan_83 : decode cX9_scan 83 = .ok (.invokevirtual 41, 3) := by decide +kernel
theorem dX9_scan_86 : decode cX9_scan 86 = .ok (.iinc 4 1, 3) := by decide +kernel
theorem dX9_scan_89 : decode cX9_scan 89 = .ok (.goto (-65), 3) := by decide +kernel
set_option maxRecDepth 20000 in
theorem l_X9_scan_24 (d : Nat) {T : CT} {σ0 : MS} {a : Nat} {rx1 : Nat} {c3 : Int} {post : Option Value → CT → MS → Prop} (h_a : OB T a 9) (h_rx1 : (T rx1).1 = 2) (l_rx1 : (T rx1).2 ≤ 1000000) (r_c3 : 0 ≤ c3 ∧ c3 ≤ 1200) (hw0 : WT T σ0) (ht : (T rx1).2 = 1200) (hx_92 : ∀ (i4 : Int) (i5 : Int) (σ : MS) , (WT T σ) → (FrC T [85, 86, 87, 512, 522, 523] σ0 σ) → (0 ≤ i4 ∧ i4 ≤ 1200) → (0 ≤ i5 ∧ i5 ≤ 1200) → (i4 ≤ i5 ∧ i5 ≤ c3) → Tn (d + 3) m_X9_scan 92 T σ [(0, .ref a), (1, .ref rx1), (3, .int (iI c3)), (4, .int (iI i4)), (5, .int (iI i5))] [] post) : ∀ (n : Nat) (i4 : Int) (i5 : Int) (σ : MS) , (WT T σ) → (FrC T [85, 86, 87, 512, 522, 523] σ0 σ) → (0 ≤ i4 ∧ i4 ≤ 1200) → (0 ≤ i5 ∧ i5 ≤ 1200) → (i4 ≤ i5 ∧ i5 ≤ c3) → (2000 - i5).toNat = n → Tn (d + 3) m_X9_scan 24 T σ [(0, .ref a), (1, .ref rx1), (3, .int (iI c3)), (4, .int (iI i4)), (5, .int (iI i5))] [] post := by
  intro n
  induction n using Nat.strongRecOn with
  | _ n ih =>
    intro i4 i5 σ hw hF r_i4 r_i5 h0 hm
    refine tn_iload dX9_scan_24 4 rfl ?_
    refine tn_iload_n dX9_scan_26 rfl 2 rfl ?_
    refine tn_icmp_ge (tgt := 92) dX9_scan_27 (by decide) ⟨by omega, by omega⟩ ⟨by omega, by omega⟩ (fun h1 => ?_) (fun h1 => ?_)
    · exact tn_sub [0, 1, 2, 3, 4] rfl (hx_92 (i4) (i5) σ hw (FrC.rfl.trans (FrC.sub hF (by decide))) (by omega) (by omega) (by omega))
    · refine tn_aload_n dX9_scan_30 rfl 0 rfl ?_
      refine tn_getI (ci := 9) (i := 4) (n := 85) (t := σ.2.1 85 a) dX9_scan_31 rfl lay_9 (by decide) fl9_30 h_a rfl rfl (rfl) ?_
      have g2 : ((-2147483648 : Int) ≤ σ.2.1 85 a ∧ σ.2.1 85 a ≤ 2147483647) := wf_85 hw h_a
      refine tn_sipush dX9_scan_34 (by decide) ?_
      refine tn_icmp_eq (tgt := 92) dX9_scan_37 (by decide) ⟨by omega, by omega⟩ ⟨by decide, by decide⟩ (fun h3 => ?_) (fun h3 => ?_)
      · exact tn_sub [0, 1, 2, 3, 4] rfl (hx_92 (i4) (i5) σ hw (FrC.rfl.trans (FrC.sub hF (by decide))) (by omega) (by omega) (by omega))
      · refine tn_aload_n dX9_scan_40 rfl 1 rfl ?_
        refine tn_iload dX9_scan_41 4 rfl ?_
        refine tn_baldX (z := i5) hw dX9_scan_43 h_rx1 (by omega) (by omega) (by omega) (fun v4 g5 => ?_)
        refine tn_bipush dX9_scan_44 (by decide) ?_
        refine tn_icmp_eq (tgt := 58) dX9_scan_46 (by decide) ⟨by omega, by omega⟩ ⟨by decide, by decide⟩ (fun h6 => ?_) (fun h6 => ?_)
        · refine tn_iinc (q0 := 4) (L' := [(5, .int (iI (i5 + 1))), (0, .ref a), (1, .ref rx1), (3, .int (iI c3)), (4, .int (iI i4))]) dX9_scan_58 rfl (by decide) rfl ?_
          refine tn_goto (tgt := 24) dX9_scan_61 (by decide) ?_
          exact tn_sub [1, 2, 3, 4, 0] rfl (ih _ (by omega) (i4) (i5 + 1) σ hw (FrC.rfl.trans (FrC.sub hF (by decide))) (by omega) (by omega) (by omega) rfl)
        · refine tn_aload_n dX9_scan_49 rfl 1 rfl ?_
          refine tn_iload dX9_scan_50 4 rfl ?_
          refine tn_baldX (z := i5) hw dX9_scan_52 h_rx1 (by omega) (by omega) (by omega) (fun v7 g8 => ?_)
          refine tn_bipush dX9_scan_53 (by decide) ?_
          refine tn_icmp_ne (tgt := 64) dX9_scan_55 (by decide) ⟨by omega, by omega⟩ ⟨by decide, by decide⟩ (fun h9 => ?_) (fun h9 => ?_)
          · refine tn_aload_n dX9_scan_64 rfl 0 rfl ?_
            refine tn_iload dX9_scan_65 4 rfl ?_
            refine tn_putV (ci := 9) (i := 6) (n := 87) (r := false) (v := i5) tyX9 tyX9_ok nmX9 dX9_scan_67 rfl lay_9 (by decide) fl9_34 rfl (tyX9_ok 6 (by decide)) rfl rfl rfl h_a rfl rfl ?_
            refine tn_aload_n dX9_scan_70 rfl 0 rfl ?_
            refine tn_aload_n dX9_scan_71 rfl 1 rfl ?_
            refine tn_iload_n dX9_scan_72 rfl 2 rfl ?_
            refine tn_iload dX9_scan_73 4 rfl ?_
            refine tn_callV (M := m_X9_scan) (pc := 75) (ix := 37) (ci := 9) (M' := m_X9_scanOne) (As := [.ref rx1, .int (iI c3), .int (iI i5)]) (rest := []) dX9_scan_75 ok_X9_scanOne im_X9_scanOne se_X9_scanOne ml9_37 np_X9_scanOne rfl rfl h_a rfl (Nat.le_of_ble_eq_true rfl) (Nat.le_of_ble_eq_true rfl) rfl (k_X9_scanOne (d) (T := T) (σ := (sA 87 a (i5) σ)) (a := a) (t := rx1) (l := c3) (i := i5) h_a h_rx1 (by omega) (by omega) (by omega) (hw.put (by decide) (by decide) (fo_87 (by omega))) (by omega) (by omega)) (fun r10 T12 σ11 gt13 hp => ?_)
            obtain ⟨v16, rfl, rfl, w17, F18, f14, f15⟩ := hp
            clear gt13
            show Tn _ _ 78 T σ11 [(0, .ref a), (1, .ref rx1), (3, .int (iI c3)), (4, .int (iI i4)), (5, .int (iI i5))] [.int (iI v16)] _
            refine tn_istore (L' := [(5, .int (iI v16)), (0, .ref a), (1, .ref rx1), (3, .int (iI c3)), (4, .int (iI i4))]) dX9_scan_78 (by decide) rfl ?_
            refine tn_aload_n dX9_scan_80 rfl 1 rfl ?_
            refine tn_iload dX9_scan_81 4 rfl ?_
            refine tn_callV (M := m_X9_scan) (pc := 83) (ix := 41) (ci := 9) (M' := m_X9_keep) (As := [.int (iI i4)]) (rest := []) dX9_scan_83 ok_X9_keep im_X9_keep se_X9_keep ml9_41 np_X9_keep rfl rfl h_a rfl (Nat.le_of_ble_eq_true rfl) (Nat.le_of_ble_eq_true rfl) rfl (k_X9_keep (d) (T := T) (σ := σ11) (a := a) (n := i4) h_a (by omega) w17 (by omega)) (fun r19 T21 σ20 gt22 hp => ?_)
            obtain ⟨rfl, rfl, w24, F25⟩ := hp
            clear gt22
            show Tn _ _ 86 T σ20 [(5, .int (iI v16)), (0, .ref a), (1, .ref rx1), (3, .int (iI c3)), (4, .int (iI i4))] [] _
            refine tn_iinc (q0 := 4) (L' := [(4, .int (iI (i4 + 1))), (5, .int (iI v16)), (0, .ref a), (1, .ref rx1), (3, .int (iI c3))]) dX9_scan_86 rfl (by decide) rfl ?_
            refine tn_goto (tgt := 24) dX9_scan_89 (by decide) ?_
            exact tn_sub [2, 3, 4, 0, 1] rfl (ih _ (by omega) (i4 + 1) (v16) σ20 w24 ((((FrC.rfl.trans (FrC.sub hF (by decide))).put (by decide) (by decide)).trans (FrC.sub F18 (by decide))).trans (FrC.sub F25 (by decide))) (by omega) (by omega) (by omega) rfl)
          · refine tn_iinc (q0 := 4) (L' := [(5, .int (iI (i5 + 1))), (0, .ref a), (1, .ref rx1), (3, .int (iI c3)), (4, .int (iI i4))]) dX9_scan_58 rfl (by decide) rfl ?_
            refine tn_goto (tgt := 24) dX9_scan_61 (by decide) ?_
            exact tn_sub [1, 2, 3, 4, 0] rfl (ih _ (by omega) (i4) (i5 + 1) σ hw (FrC.rfl.trans (FrC.sub hF (by decide))) (by omega) (by omega) (by omega) rfl)
theorem ml9_48 : Cond.methodLink RX9 48 yX9_next ∈ pWW := pw3 (List.mem_of_getElem? (i := 57) rfl) rfl
theorem dX9_scan_92 : decode cX9_scan 92 = .ok (.aload_n 0, 1) := by decide +kernel
theorem dX9_scan_93 : decode cX9_scan 93 = .ok (.getfield 30, 3) := by decide +kernel
theorem dX9_scan_96 : decode cX9_scan 96 = .ok (.sipush 263, 3) := by decide +kernel
theorem dX9_scan_99 : decode cX9_scan 99 = .ok (.if_icmp .eq 21, 3) := by decide +kernel
theorem dX9_scan_120 : decode cX9_scan 120 = .ok (.aload_n 0, 1) := by decide +kernel
theorem dX9_scan_121 : decode cX9_scan 121 = .ok (.iconst (-1), 1) := by decide +kernel
theorem dX9_scan_122 : decode cX9_scan 122 = .ok (.putfield 45, 3) := by decide +kernel
theorem dX9_scan_125 : decode cX9_scan 125 = .ok (.aload_n 0, 1) := by decide +kernel
theorem dX9_scan_126 : decode cX9_scan 126 = .ok (.invokevirtual 48, 3) := by decide +kernel
theorem dX9_scan_129 : decode cX9_scan 129 = .ok (.return_, 1) := by decide +kernel
theorem dX9_scan_102 : decode cX9_scan 102 = .ok (.aload_n 0, 1) := by decide +kernel
theorem dX9_scan_103 : decode cX9_scan 103 = .ok (.sipush 264, 3) := by decide +kernel
theorem dX9_scan_106 : decode cX9_scan 106 = .ok (.putfield 30, 3) := by decide +kernel
theorem dX9_scan_109 : decode cX9_scan 109 = .ok (.aload_n 0, 1) := by decide +kernel
theorem dX9_scan_110 : decode cX9_scan 110 = .ok (.iload_n 3, 1) := by decide +kernel
theorem dX9_scan_111 : decode cX9_scan 111 = .ok (.putfield 34, 3) := by decide +kernel
theorem dX9_scan_114 : decode cX9_scan 114 = .ok (.aload_n 0, 1) := by decide +kernel
theorem dX9_scan_115 : decode cX9_scan 115 = .ok (.iload 4, 2) := by decide +kernel
theorem dX9_scan_117 : decode cX9_scan 117 = .ok (.invokevirtual 41, 3) := by decide +kernel
set_option maxRecDepth 20000 in
theorem k_X9_scan (d : Nat) {T : CT} {σ : MS} {a : Nat} {t : Nat} {n : Int} (ha : OB T a 9) (h_t : (T t).1 = 2) (l_t : (T t).2 ≤ 1000000) (h_n : -2147483648 ≤ n ∧ n ≤ 2147483647) (hw : WT T σ) (ht : (T t).2 = 1200) : Tn (d + 3) m_X9_scan 0 T σ [(0, .ref a), (1, .ref t), (2, .int (iI n))] [] (fun ro T2 σ2 => ro = none ∧ T = T2 ∧ WT T2 σ2 ∧ FrC T [84, 85, 86, 87, 512, 522, 523] σ σ2 ∧ (TKI σ2 a)) := by
  refine tn_iconst dX9_scan_0 ?_
  refine tn_iload_n dX9_scan_1 rfl 2 rfl ?_
  refine tn_aload_n dX9_scan_2 rfl 1 rfl ?_
  refine tn_alenX dX9_scan_3 (Or.inr (Or.inl h_t)) ?_
  refine tn_mmin (x := n) (y := ((T t).2 : Int)) dX9_scan_4 mlm9_21 stM_min iniM cdM_min (by omega) (Nat.le_of_ble_eq_true rfl) ⟨by omega, by omega⟩ ⟨by omega, by omega⟩ (fun z1 g2 => ?_)
  refine tn_mmax (x := 0) (y := z1) dX9_scan_7 mlm9_27 stM_max iniM cdM_max (by omega) (Nat.le_of_ble_eq_true rfl) ⟨by omega, by omega⟩ ⟨by omega, by omega⟩ (fun z3 g4 => ?_)
  refine tn_istore_n (L' := [(3, .int (iI z3)), (0, .ref a), (1, .ref t), (2, .int (iI n))]) dX9_scan_10 rfl (by decide) rfl ?_
  refine tn_iconst dX9_scan_11 ?_
  refine tn_istore (L' := [(4, .int (iI 0)), (3, .int (iI z3)), (0, .ref a), (1, .ref t), (2, .int (iI n))]) dX9_scan_12 (by decide) rfl ?_
  refine tn_iconst dX9_scan_14 ?_
  refine tn_istore (L' := [(5, .int (iI 0)), (4, .int (iI 0)), (3, .int (iI z3)), (0, .ref a), (1, .ref t), (2, .int (iI n))]) dX9_scan_15 (by decide) rfl ?_
  refine tn_aload_n dX9_scan_17 rfl 3 rfl ?_
  refine tn_sipush dX9_scan_18 (by decide) ?_
  refine tn_putV (ci := 9) (i := 4) (n := 85) (r := false) (v := 264) tyX9 tyX9_ok nmX9 dX9_scan_21 rfl lay_9 (by decide) fl9_30 rfl (tyX9_ok 4 (by decide)) rfl rfl rfl ha rfl rfl ?_
  refine tn_sub [3, 4, 2, 1, 0] rfl (l_X9_scan_24 (d) (T := T) (σ0 := (sA 85 a (264) σ)) (a := a) (rx1 := t) (c3 := z3) ha h_t (by omega) (by omega) (hw.put (by decide) (by decide) (fo_85 (by omega))) (by omega) (fun i45 i56 σ7 w10 F11 r12 r13 f14 => ?_) _ (0) (0) (sA 85 a (264) σ) (hw.put (by decide) (by decide) (fo_85 (by omega))) FrC.rfl (by omega) (by omega) (by omega) rfl)
  show Tn _ _ 92 T σ7 [(0, .ref a), (1, .ref t), (3, .int (iI z3)), (4, .int (iI i45)), (5, .int (iI i56))] [] _
  refine tn_aload_n dX9_scan_92 rfl 0 rfl ?_
  refine tn_getI (ci := 9) (i := 4) (n := 85) (t := σ7.2.1 85 a) dX9_scan_93 rfl lay_9 (by decide) fl9_30 ha rfl rfl (rfl) ?_
  have g15 : ((-2147483648 : Int) ≤ σ7.2.1 85 a ∧ σ7.2.1 85 a ≤ 2147483647) := wf_85 w10 ha
  refine tn_sipush dX9_scan_96 (by decide) ?_
  refine tn_icmp_eq (tgt := 120) dX9_scan_99 (by decide) ⟨by omega, by omega⟩ ⟨by decide, by decide⟩ (fun h16 => ?_) (fun h16 => ?_)
  · refine tn_aload_n dX9_scan_120 rfl 0 rfl ?_
    refine tn_iconst dX9_scan_121 ?_
    refine tn_putV (ci := 9) (i := 3) (n := 84) (r := false) (v := -1) tyX9 tyX9_ok nmX9 dX9_scan_122 rfl lay_9 (by decide) fl9_45 rfl (tyX9_ok 3 (by decide)) rfl rfl rfl ha rfl rfl ?_
    refine tn_aload_n dX9_scan_125 rfl 0 rfl ?_
    have q21 : (sA 84 a (-1) σ7).2.1 84 a = -1 := ra_eq
    refine tn_callV (M := m_X9_scan) (pc := 126) (ix := 48) (ci := 9) (M' := m_X9_next) (As := []) (rest := []) dX9_scan_126 ok_X9_next im_X9_next se_X9_next ml9_48 np_X9_next rfl rfl ha rfl (Nat.le_of_ble_eq_true rfl) (Nat.le_of_ble_eq_true rfl) rfl (k_X9_next (d + 1) (T := T) (σ := (sA 84 a (-1) σ7)) (a := a) ha (w10.put (by decide) (by decide) (fo_84 (by omega))) (fun q => absurd (q.symm.trans (ra_eq)) (by decide))) (fun r17 T19 σ18 gt20 hp => ?_)
    obtain ⟨rfl, rfl, w26, F27, f22, f23, f24⟩ := hp
    clear gt20
    show Tn _ _ 129 T σ18 [(0, .ref a), (1, .ref t), (3, .int (iI z3)), (4, .int (iI i45)), (5, .int (iI i56))] [] _
    exact tn_vret rfl dX9_scan_129 ⟨rfl, rfl, w26, ((((FrC.rfl.put (by decide) (by decide)).trans (FrC.sub F11 (by decide))).put (by decide) (by decide)).trans (FrC.sub F27 (by decide))), f22⟩
  · refine tn_aload_n dX9_scan_102 rfl 0 rfl ?_
    refine tn_sipush dX9_scan_103 (by decide) ?_
    refine tn_putV (ci := 9) (i := 4) (n := 85) (r := false) (v := 264) tyX9 tyX9_ok nmX9 dX9_scan_106 rfl lay_9 (by decide) fl9_30 rfl (tyX9_ok 4 (by decide)) rfl rfl rfl ha rfl rfl ?_
    refine tn_aload_n dX9_scan_109 rfl 0 rfl ?_
    refine tn_iload_n dX9_scan_110 rfl 2 rfl ?_
    refine tn_putV (ci := 9) (i := 6) (n := 87) (r := false) (v := z3) tyX9 tyX9_ok nmX9 dX9_scan_111 rfl lay_9 (by decide) fl9_34 rfl (tyX9_ok 6 (by decide)) rfl rfl rfl ha rfl rfl ?_
    refine tn_aload_n dX9_scan_114 rfl 0 rfl ?_
    refine tn_iload dX9_scan_115 3 rfl ?_
    refine tn_callV (M := m_X9_scan) (pc := 117) (ix := 41) (ci := 9) (M' := m_X9_keep) (As := [.int (iI i45)]) (rest := []) dX9_scan_117 ok_X9_keep im_X9_keep se_X9_keep ml9_41 np_X9_keep rfl rfl ha rfl (Nat.le_of_ble_eq_true rfl) (Nat.le_of_ble_eq_true rfl) rfl (k_X9_keep (d) (T := T) (σ := (sA 87 a (z3) (sA 85 a (264) σ7))) (a := a) (n := i45) ha (by omega) ((w10.put (by decide) (by decide) (fo_85 (by omega))).put (by decide) (by decide) (fo_87 (by omega))) (fun _ => Or.inr (Or.inr (rc_o (by decide) (ra_eq))))) (fun r28 T30 σ29 gt31 hp => ?_)
    obtain ⟨rfl, rfl, w33, F34⟩ := hp
    clear gt31
    show Tn _ _ 120 T σ29 [(0, .ref a), (1, .ref t), (3, .int (iI z3)), (4, .int (iI i45)), (5, .int (iI i56))] [] _
    refine tn_aload_n dX9_scan_120 rfl 0 rfl ?_
    refine tn_iconst dX9_scan_121 ?_
    refine tn_putV (ci := 9) (i := 3) (n := 84) (r := false) (v := -1) tyX9 tyX9_ok nmX9 dX9_scan_122 rfl lay_9 (by decide) fl9_45 rfl (tyX9_ok 3 (by decide)) rfl rfl rfl ha rfl rfl ?_
    refine tn_aload_n dX9_scan_125 rfl 0 rfl ?_
    have q39 : (sA 84 a (-1) σ29).2.1 84 a = -1 := ra_eq
    refine tn_callV (M := m_X9_scan) (pc := 126) (ix := 48) (ci := 9) (M' := m_X9_next) (As := []) (rest := []) dX9_scan_126 ok_X9_next im_X9_next se_X9_next ml9_48 np_X9_next rfl rfl ha rfl (Nat.le_of_ble_eq_true rfl) (Nat.le_of_ble_eq_true rfl) rfl (k_X9_next (d + 1) (T := T) (σ := (sA 84 a (-1) σ29)) (a := a) ha (w33.put (by decide) (by decide) (fo_84 (by omega))) (fun q => absurd (q.symm.trans (ra_eq)) (by decide))) (fun r35 T37 σ36 gt38 hp => ?_)
    obtain ⟨rfl, rfl, w44, F45, f40, f41, f42⟩ := hp
    clear gt38
    show Tn _ _ 129 T σ36 [(0, .ref a), (1, .ref t), (3, .int (iI z3)), (4, .int (iI i45)), (5, .int (iI i56))] [] _
    exact tn_vret rfl dX9_scan_129 ⟨rfl, rfl, w44, (((((((FrC.rfl.put (by decide) (by decide)).trans (FrC.sub F11 (by decide))).put (by decide) (by decide)).put (by decide) (by decide)).trans (FrC.sub F34 (by decide))).put (by decide) (by decide)).trans (FrC.sub F45 (by decide))), f40⟩
