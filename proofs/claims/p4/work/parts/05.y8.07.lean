theorem cd_X9_scanOne : Cond.code yX9_scanOne cX9_scanOne 5 (some .int) ∈ pWW := pw3 (List.mem_of_getElem? (i := 38) rfl) rfl
abbrev m_X9_scanOne : MT := (yX9_scanOne, cX9_scanOne, 5, (some .int))
theorem ok_X9_scanOne : pOk m_X9_scanOne := ⟨⟨cd_X9_scanOne, ini_9⟩, by decide +kernel, ⟨by decide +kernel, by decide +kernel⟩, Nat.le_of_ble_eq_true rfl⟩
theorem np_X9_scanOne : (parseMethodDescriptor yX9_scanOne.desc).map (fun d => d.parameters.length) = some 3 := by decide +kernel
theorem im_X9_scanOne : Cond.instanceMethod yX9_scanOne ∈ pWW := pw3 (List.mem_of_getElem? (i := 37) rfl) rfl
theorem se_X9_scanOne : Cond.selects RX9 yX9_scanOne yX9_scanOne ∈ pWW := pws (List.mem_map.mpr ⟨_, lw_pin 1 rfl, rfl⟩) rfl
theorem dX9_scanOne_0 : decode cX9_scanOne 0 = .ok (.iload_n 3, 1) := by decide +kernel
theorem dX9_scanOne_1 : decode cX9_scanOne 1 = .ok (.istore 4, 2) := by decide +kernel
theorem dX9_scanOne_3 : decode cX9_scanOne 3 = .ok (.aload_n 0, 1) := by decide +kernel
theorem dX9_scanOne_4 : decode cX9_scanOne 4 = .ok (.iconst 0, 1) := by decide +kernel
theorem dX9_scanOne_5 : decode cX9_scanOne 5 = .ok (.putfield 55, 3) := by decide +kernel
theorem dX9_scanOne_8 : decode cX9_scanOne 8 = .ok (.iload 4, 2) := by decide +kernel
theorem dX9_scanOne_10 : decode cX9_scanOne 10 = .ok (.iload_n 2, 1) := by decide +kernel
theorem dX9_scanOne_11 : decode cX9_scanOne 11 = .ok (.if_icmp .ge 45, 3) := by decide +kernel
theorem dX9_scanOne_14 : decode cX9_scanOne 14 = .ok (.aload_n 1, 1) := by decide +kernel
theorem dX9_scanOne_15 : decode cX9_scanOne 15 = .ok (.iload 4, 2) := by decide +kernel
theorem dX9_scanOne_17 : decode cX9_scanOne 17 = .ok (.baload, 1) := by decide +kernel
theorem dX9_scanOne_18 : decode cX9_scanOne 18 = .ok (.bipush 97, 2) := by decide +kernel
theorem dX9_scanOne_20 : decode cX9_scanOne 20 = .ok (.if_icmp .lt 36, 3) := by decide +kernel
theorem dX9_scanOne_23 : decode cX9_scanOne 23 = .ok (.aload_n 1, 1) := by decide +kernel
theorem dX9_scanOne_24 : decode cX9_scanOne 24 = .ok (.iload 4, 2) := by decide +kernel
theorem dX9_scanOne_26 : decode cX9_scanOne 26 = .ok (.baload, 1) := by decide +kernel
theorem dX9_scanOne_27 : decode cX9_scanOne 27 = .ok (.bipush 122, 2) := by decide +kernel
theorem dX9_scanOne_29 : decode cX9_scanOne 29 = .ok (.if_icmp .gt 27, 3) := by decide +kernel
theorem dX9_scanOne_32 : decode cX9_scanOne 32 = .ok (.aload_n 0, 1) := by decide +kernel
theorem dX9_scanOne_33 : decode cX9_scanOne 33 = .ok (.aload_n 0, 1) := by decide +kernel
theorem dX9_scanOne_34 : decode cX9_scanOne 34 = .ok (.getfield 55, 3) := by decide +kernel
theorem dX9_scanOne_37 : decode cX9_scanOne 37 = .ok (.iconst 5, 1) := by decide +kernel
theorem dX9_scanOne_38 : decode cX9_scanOne 38 = .ok (.ishl, 1) := by decide +kernel
theorem dX9_scanOne_39 : decode cX9_scanOne 39 = .ok (.aload_n 1, 1) := by decide +kernel
theorem dX9_scanOne_40 : decode cX9_scanOne 40 = .ok (.iload 4, 2) := by decide +kernel
theorem dX9_scanOne_42 : decode cX9_scanOne 42 = .ok (.baload, 1) := by decide +kernel
theorem dX9_scanOne_43 : decode cX9_scanOne 43 = .ok (.bipush 96, 2) := by decide +kernel
theorem dX9_scanOne_45 : decode cX9_scanOne 45 = .ok (.isub, 1) := by decide +kernel
theorem dX9_scanOne_46 : decode cX9_scanOne 46 = .ok (.ior, 1) := by decide +kernel
theorem dX9_scanOne_47 : decode cX9_scanOne 47 = .ok (.putfield 55, 3) := by decide +kernel
theorem dX9_scanOne_50 : decode cX9_scanOne 50 = .ok (.iinc 4 1, 3) := by decide +kernel
theorem dX9_scanOne_53 : decode cX9_scanOne 53 = .ok (.goto (-45), 3) := by decide +kernel
set_option maxRecDepth 20000 in
theorem l_X9_scanOne_8 (d : Nat) {T : CT} {σ0 : MS} {a : Nat} {rx1 : Nat} {c2 : Int} {c3 : Int} {post : Option Value → CT → MS → Prop} (h_a : OB T a 9) (h_rx1 : (T rx1).1 = 2) (l_rx1 : (T rx1).2 ≤ 1000000) (r_c2 : 0 ≤ c2 ∧ c2 ≤ 1200) (r_c3 : 0 ≤ c3 ∧ c3 ≤ 1200) (hw0 : WT T σ0) (ht : (T rx1).2 = 1200) (hx_56 : ∀ (i4 : Int) (σ : MS) , (WT T σ) → (FrC T [86] σ0 σ) → (0 ≤ i4 ∧ i4 ≤ 1200) → (c3 ≤ i4 ∧ i4 ≤ c2) → Tn (d + 2) m_X9_scanOne 56 T σ [(0, .ref a), (1, .ref rx1), (2, .int (iI c2)), (3, .int (iI c3)), (4, .int (iI i4))] [] post) : ∀ (n : Nat) (i4 : Int) (σ : MS) , (WT T σ) → (FrC T [86] σ0 σ) → (0 ≤ i4 ∧ i4 ≤ 1200) → (c3 ≤ i4 ∧ i4 ≤ c2) → (2147483700 - i4).toNat = n → Tn (d + 2) m_X9_scanOne 8 T σ [(0, .ref a), (1, .ref rx1), (2, .int (iI c2)), (3, .int (iI c3)), (4, .int (iI i4))] [] post := by
  intro n
  induction n using Nat.strongRecOn with
  | _ n ih =>
    intro i4 σ hw hF r_i4 h0 hm
    refine tn_iload dX9_scanOne_8 4 rfl ?_
    refine tn_iload_n dX9_scanOne_10 rfl 2 rfl ?_
    refine tn_icmp_ge (tgt := 56) dX9_scanOne_11 (by decide) ⟨by omega, by omega⟩ ⟨by omega, by omega⟩ (fun h1 => ?_) (fun h1 => ?_)
    · exact tn_sub [0, 1, 2, 3, 4] rfl (hx_56 (i4) σ hw (FrC.rfl.trans (FrC.sub hF (by decide))) (by omega) (by omega))
    · refine tn_aload_n dX9_scanOne_14 rfl 1 rfl ?_
      refine tn_iload dX9_scanOne_15 4 rfl ?_
      refine tn_baldX (z := i4) hw dX9_scanOne_17 h_rx1 (by omega) (by omega) (by omega) (fun v2 g3 => ?_)
      refine tn_bipush dX9_scanOne_18 (by decide) ?_
      refine tn_icmp_lt (tgt := 56) dX9_scanOne_20 (by decide) ⟨by omega, by omega⟩ ⟨by decide, by decide⟩ (fun h4 => ?_) (fun h4 => ?_)
      · exact tn_sub [0, 1, 2, 3, 4] rfl (hx_56 (i4) σ hw (FrC.rfl.trans (FrC.sub hF (by decide))) (by omega) (by omega))
      · refine tn_aload_n dX9_scanOne_23 rfl 1 rfl ?_
        refine tn_iload dX9_scanOne_24 4 rfl ?_
        refine tn_baldX (z := i4) hw dX9_scanOne_26 h_rx1 (by omega) (by omega) (by omega) (fun v5 g6 => ?_)
        refine tn_bipush dX9_scanOne_27 (by decide) ?_
        refine tn_icmp_gt (tgt := 56) dX9_scanOne_29 (by decide) ⟨by omega, by omega⟩ ⟨by decide, by decide⟩ (fun h7 => ?_) (fun h7 => ?_)
        · exact tn_sub [0, 1, 2, 3, 4] rfl (hx_56 (i4) σ hw (FrC.rfl.trans (FrC.sub hF (by decide))) (by omega) (by omega))
        · refine tn_aload_n dX9_scanOne_32 rfl 0 rfl ?_
          refine tn_aload_n dX9_scanOne_33 rfl 0 rfl ?_
          refine tn_getI (ci := 9) (i := 5) (n := 86) (t := σ.2.1 86 a) dX9_scanOne_34 rfl lay_9 (by decide) fl9_55 h_a rfl rfl (rfl) ?_
          have g8 : ((-2147483648 : Int) ≤ σ.2.1 86 a ∧ σ.2.1 86 a ≤ 2147483647) := wf_86 hw h_a
          refine tn_iconst dX9_scanOne_37 ?_
          refine tn_ishl dX9_scanOne_38 ?_
          refine tn_anyI (fun z9 g10 => ?_)
          have g10r : -2147483648 ≤ z9 ∧ z9 ≤ 2147483647 := g10
          refine tn_aload_n dX9_scanOne_39 rfl 1 rfl ?_
          refine tn_iload dX9_scanOne_40 4 rfl ?_
          refine tn_baldX (z := i4) hw dX9_scanOne_42 h_rx1 (by omega) (by omega) (by omega) (fun v11 g12 => ?_)
          refine tn_bipush dX9_scanOne_43 (by decide) ?_
          refine tn_isub dX9_scanOne_45 ?_
          refine tn_any (fun z13 g14 => ?_)
          have g14r : -2147483648 ≤ z13 ∧ z13 ≤ 2147483647 := g14
          refine tn_ior dX9_scanOne_46 ?_
          refine tn_anyI (fun z15 g16 => ?_)
          have g16r : -2147483648 ≤ z15 ∧ z15 ≤ 2147483647 := g16
          refine tn_putV (ci := 9) (i := 5) (n := 86) (r := false) (v := z15) tyX9 tyX9_ok nmX9 dX9_scanOne_47 rfl lay_9 (by decide) fl9_55 rfl (tyX9_ok 5 (by decide)) rfl rfl rfl h_a rfl rfl ?_
          refine tn_iinc (q0 := 4) (L' := [(4, .int (iI (i4 + 1))), (0, .ref a), (1, .ref rx1), (2, .int (iI c2)), (3, .int (iI c3))]) dX9_scanOne_50 rfl (by decide) rfl ?_
          refine tn_goto (tgt := 8) dX9_scanOne_53 (by decide) ?_
          exact tn_sub [1, 2, 3, 4, 0] rfl (ih _ (by omega) (i4 + 1) (sA 86 a (z15) σ) (hw.put (by decide) (by decide) (fo_86 (by omega))) ((FrC.rfl.trans (FrC.sub hF (by decide))).put (by decide) (by decide)) (by omega) (by omega) rfl)
theorem dX9_scanOne_56 : decode cX9_scanOne 56 = .ok (.iload 4, 2) := by decide +kernel
theorem dX9_scanOne_58 : decode cX9_scanOne 58 = .ok (.iload_n 3, 1) := by decide +kernel
theorem dX9_scanOne_59 : decode cX9_scanOne 59 = .ok (.if_icmp .le 29, 3) := by decide +kernel
theorem dX9_scanOne_88 : decode cX9_scanOne 88 = .ok (.iload 4, 2) := by decide +kernel
theorem dX9_scanOne_90 : decode cX9_scanOne 90 = .ok (.iload_n 2, 1) := by decide +kernel
theorem dX9_scanOne_91 : decode cX9_scanOne 91 = .ok (.if_icmp .ge 46, 3) := by decide +kernel
theorem dX9_scanOne_94 : decode cX9_scanOne 94 = .ok (.aload_n 1, 1) := by decide +kernel
theorem dX9_scanOne_95 : decode cX9_scanOne 95 = .ok (.iload 4, 2) := by decide +kernel
theorem dX9_scanOne_97 : decode cX9_scanOne 97 = .ok (.baload, 1) := by decide +kernel
theorem dX9_scanOne_98 : decode cX9_scanOne 98 = .ok (.bipush 48, 2) := by decide +kernel
theorem dX9_scanOne_100 : decode cX9_scanOne 100 = .ok (.if_icmp .lt 37, 3) := by decide +kernel
theorem dX9_scanOne_103 : decode cX9_scanOne 103 = .ok (.aload_n 1, 1) := by decide +kernel
theorem dX9_scanOne_104 : decode cX9_scanOne 104 = .ok (.iload 4, 2) := by decide +kernel
theorem dX9_scanOne_106 : decode cX9_scanOne 106 = .ok (.baload, 1) := by decide +kernel
theorem dX9_scanOne_107 : decode cX9_scanOne 107 = .ok (.bipush 57, 2) := by decide +kernel
theorem dX9_scanOne_109 : decode cX9_scanOne 109 = .ok (.if_icmp .gt 28, 3) := by decide +kernel
theorem dX9_scanOne_112 : decode cX9_scanOne 112 = .ok (.aload_n 0, 1) := by decide +kernel
theorem dX9_scanOne_113 : decode cX9_scanOne 113 = .ok (.aload_n 0, 1) := by decide +kernel
theorem dX9_scanOne_114 : decode cX9_scanOne 114 = .ok (.getfield 55, 3) := by decide +kernel
theorem dX9_scanOne_117 : decode cX9_scanOne 117 = .ok (.bipush 10, 2) := by decide +kernel
theorem dX9_scanOne_119 : decode cX9_scanOne 119 = .ok (.imul, 1) := by decide +kernel
theorem dX9_scanOne_120 : decode cX9_scanOne 120 = .ok (.aload_n 1, 1) := by decide +kernel
theorem dX9_scanOne_121 : decode cX9_scanOne 121 = .ok (.iload 4, 2) := by decide +kernel
theorem dX9_scanOne_123 : decode cX9_scanOne 123 = .ok (.baload, 1) := by decide +kernel
theorem dX9_scanOne_124 : decode cX9_scanOne 124 = .ok (.bipush 48, 2) := by decide +kernel
theorem dX9_scanOne_126 : decode cX9_scanOne 126 = .ok (.isub, 1) := by decide +kernel
theorem dX9_scanOne_127 : decode cX9_scanOne 127 = .ok (.iadd, 1) := by decide +kernel
theorem dX9_scanOne_128 : decode cX9_scanOne 128 = .ok (.putfield 55, 3) := by decide +kernel
theorem dX9_scanOne_131 : decode cX9_scanOne 131 = .ok (.iinc 4 1, 3) := by decide +kernel
theorem dX9_scanOne_134 : decode cX9_scanOne 134 = .ok (.goto (-46), 3) := by decide +kernel
set_option maxRecDepth 20000 in
theorem l_X9_scanOne_88 (d : Nat) {T : CT} {σ0 : MS} {a : Nat} {rx1 : Nat} {c2 : Int} {c3 : Int} {post : Option Value → CT → MS → Prop} (h_a : OB T a 9) (h_rx1 : (T rx1).1 = 2) (l_rx1 : (T rx1).2 ≤ 1000000) (r_c2 : 0 ≤ c2 ∧ c2 ≤ 1200) (r_c3 : 0 ≤ c3 ∧ c3 ≤ 1200) (hw0 : WT T σ0) (ht : (T rx1).2 = 1200) (hx_137 : ∀ (i4 : Int) (σ : MS) , (WT T σ) → (FrC T [86] σ0 σ) → (0 ≤ i4 ∧ i4 ≤ 1200) → (c3 ≤ i4 ∧ i4 ≤ c2) → Tn (d + 2) m_X9_scanOne 137 T σ [(0, .ref a), (1, .ref rx1), (2, .int (iI c2)), (3, .int (iI c3)), (4, .int (iI i4))] [] post) : ∀ (n : Nat) (i4 : Int) (σ : MS) , (WT T σ) → (FrC T [86] σ0 σ) → (0 ≤ i4 ∧ i4 ≤ 1200) → (c3 ≤ i4 ∧ i4 ≤ c2) → (2147483700 - i4).toNat = n → Tn (d + 2) m_X9_scanOne 88 T σ [(0, .ref a), (1, .ref rx1), (2, .int (iI c2)), (3, .int (iI c3)), (4, .int (iI i4))] [] post := by
  intro n
  induction n using Nat.strongRecOn with
  | _ n ih =>
    intro i4 σ hw hF r_i4 h0 hm
    refine tn_iload dX9_scanOne_88 4 rfl ?_
    refine tn_iload_n dX9_scanOne_90 rfl 2 rfl ?_
    refine tn_icmp_ge (tgt := 137) dX9_scanOne_91 (by decide) ⟨by omega, by omega⟩ ⟨by omega, by omega⟩ (fun h1 => ?_) (fun h1 => ?_)
    · exact tn_sub [0, 1, 2, 3, 4] rfl (hx_137 (i4) σ hw (FrC.rfl.trans (FrC.sub hF (by decide))) (by omega) (by omega))
    · refine tn_aload_n dX9_scanOne_94 rfl 1 rfl ?_
      refine tn_iload dX9_scanOne_95 4 rfl ?_
      refine tn_baldX (z := i4) hw dX9_scanOne_97 h_rx1 (by omega) (by omega) (by omega) (fun v2 g3 => ?_)
      refine tn_bipush dX9_scanOne_98 (by decide) ?_
      refine tn_icmp_lt (tgt := 137) dX9_scanOne_100 (by decide) ⟨by omega, by omega⟩ ⟨by decide, by decide⟩ (fun h4 => ?_) (fun h4 => ?_)
      · exact tn_sub [0, 1, 2, 3, 4] rfl (hx_137 (i4) σ hw (FrC.rfl.trans (FrC.sub hF (by decide))) (by omega) (by omega))
      · refine tn_aload_n dX9_scanOne_103 rfl 1 rfl ?_
        refine tn_iload dX9_scanOne_104 4 rfl ?_
        refine tn_baldX (z := i4) hw dX9_scanOne_106 h_rx1 (by omega) (by omega) (by omega) (fun v5 g6 => ?_)
        refine tn_bipush dX9_scanOne_107 (by decide) ?_
        refine tn_icmp_gt (tgt := 137) dX9_scanOne_109 (by decide) ⟨by omega, by omega⟩ ⟨by decide, by decide⟩ (fun h7 => ?_) (fun h7 => ?_)
        · exact tn_sub [0, 1, 2, 3, 4] rfl (hx_137 (i4) σ hw (FrC.rfl.trans (FrC.sub hF (by decide))) (by omega) (by omega))
        · refine tn_aload_n dX9_scanOne_112 rfl 0 rfl ?_
          refine tn_aload_n dX9_scanOne_113 rfl 0 rfl ?_
          refine tn_getI (ci := 9) (i := 5) (n := 86) (t := σ.2.1 86 a) dX9_scanOne_114 rfl lay_9 (by decide) fl9_55 h_a rfl rfl (rfl) ?_
          have g8 : ((-2147483648 : Int) ≤ σ.2.1 86 a ∧ σ.2.1 86 a ≤ 2147483647) := wf_86 hw h_a
          refine tn_bipush dX9_scanOne_117 (by decide) ?_
          refine tn_imul dX9_scanOne_119 ?_
          refine tn_any (fun z9 g10 => ?_)
          have g10r : -2147483648 ≤ z9 ∧ z9 ≤ 2147483647 := g10
          refine tn_aload_n dX9_scanOne_120 rfl 1 rfl ?_
          refine tn_iload dX9_scanOne_121 4 rfl ?_
          refine tn_baldX (z := i4) hw dX9_scanOne_123 h_rx1 (by omega) (by omega) (by omega) (fun v11 g12 => ?_)
          refine tn_bipush dX9_scanOne_124 (by decide) ?_
          refine tn_isub dX9_scanOne_126 ?_
          refine tn_any (fun z13 g14 => ?_)
          have g14r : -2147483648 ≤ z13 ∧ z13 ≤ 2147483647 := g14
          refine tn_iadd dX9_scanOne_127 ?_
          refine tn_any (fun z15 g16 => ?_)
          have g16r : -2147483648 ≤ z15 ∧ z15 ≤ 2147483647 := g16
          refine tn_putV (ci := 9) (i := 5) (n := 86) (r := false) (v := z15) tyX9 tyX9_ok nmX9 dX9_scanOne_128 rfl lay_9 (by decide) fl9_55 rfl (tyX9_ok 5 (by decide)) rfl rfl rfl h_a rfl rfl ?_
          refine tn_iinc (q0 := 4) (L' := [(4, .int (iI (i4 + 1))), (0, .ref a), (1, .ref rx1), (2, .int (iI c2)), (3, .int (iI c3))]) dX9_scanOne_131 rfl (by decide) rfl ?_
          refine tn_goto (tgt := 88) dX9_scanOne_134 (by decide) ?_
          exact tn_sub [1, 2, 3, 4, 0] rfl (ih _ (by omega) (i4 + 1) (sA 86 a (z15) σ) (hw.put (by decide) (by decide) (fo_86 (by omega))) ((FrC.rfl.trans (FrC.sub hF (by decide))).put (by decide) (by decide)) (by omega) (by omega) rfl)
theorem ml9_62 : Cond.methodLink RX9 62 yX9_isSign ∈ pWW := pw3 (List.mem_of_getElem? (i := 45) rfl) rfl
theorem ml9_58 : Cond.methodLink RX9 58 yX9_wordKind ∈ pWW := pw3 (List.mem_of_getElem? (i := 39) rfl) rfl
theorem dX9_scanOne_137 : decode cX9_scanOne 137 = .ok (.iload 4, 2) := by decide +kernel
theorem dX9_scanOne_139 : decode cX9_scanOne 139 = .ok (.iload_n 3, 1) := by decide +kernel
theorem dX9_scanOne_140 : decode cX9_scanOne 140 = .ok (.if_icmp .le 28, 3) := by decide +kernel
theorem dX9_scanOne_168 : decode cX9_scanOne 168 = .ok (.aload_n 0, 1) := by decide +kernel
theorem dX9_scanOne_169 : decode cX9_scanOne 169 = .ok (.aload_n 1, 1) := by decide +kernel
theorem dX9_scanOne_170 : decode cX9_scanOne 170 = .ok (.iload_n 3, 1) := by decide +kernel
theorem dX9_scanOne_171 : decode cX9_scanOne 171 = .ok (.baload, 1) := by decide +kernel
theorem dX9_scanOne_172 : decode cX9_scanOne 172 = .ok (.invokestatic 62, 3) := by decide +kernel
theorem dX9_scanOne_175 : decode cX9_scanOne 175 = .ok (.ifCond .eq 9, 3) := by decide +kernel
theorem dX9_scanOne_184 : decode cX9_scanOne 184 = .ok (.sipush 263, 3) := by decide +kernel
theorem dX9_scanOne_187 : decode cX9_scanOne 187 = .ok (.putfield 30, 3) := by decide +kernel
theorem dX9_scanOne_190 : decode cX9_scanOne 190 = .ok (.iload_n 3, 1) := by decide +kernel
theorem dX9_scanOne_191 : decode cX9_scanOne 191 = .ok (.iconst 1, 1) := by decide +kernel
theorem dX9_scanOne_192 : decode cX9_scanOne 192 = .ok (.iadd, 1) := by decide +kernel
theorem dX9_scanOne_193 : decode cX9_scanOne 193 = .ok (.ireturn, 1) := by decide +kernel
theorem dX9_scanOne_178 : decode cX9_scanOne 178 = .ok (.aload_n 1, 1) := by decide +kernel
theorem dX9_scanOne_179 : decode cX9_scanOne 179 = .ok (.iload_n 3, 1) := by decide +kernel
theorem dX9_scanOne_180 : decode cX9_scanOne 180 = .ok (.baload, 1) := by decide +kernel
theorem dX9_scanOne_181 : decode cX9_scanOne 181 = .ok (.goto 6, 3) := by decide +kernel
theorem dX9_scanOne_143 : decode cX9_scanOne 143 = .ok (.aload_n 0, 1) := by decide +kernel
theorem dX9_scanOne_144 : decode cX9_scanOne 144 = .ok (.iload 4, 2) := by decide +kernel
theorem dX9_scanOne_146 : decode cX9_scanOne 146 = .ok (.iload_n 3, 1) := by decide +kernel
theorem dX9_scanOne_147 : decode cX9_scanOne 147 = .ok (.isub, 1) := by decide +kernel
theorem dX9_scanOne_148 : decode cX9_scanOne 148 = .ok (.bipush 7, 2) := by decide +kernel
theorem dX9_scanOne_150 : decode cX9_scanOne 150 = .ok (.if_icmp .le 9, 3) := by decide +kernel
theorem dX9_scanOne_159 : decode cX9_scanOne 159 = .ok (.sipush 257, 3) := by decide +kernel
theorem dX9_scanOne_162 : decode cX9_scanOne 162 = .ok (.putfield 30, 3) := by decide +kernel
theorem dX9_scanOne_165 : decode cX9_scanOne 165 = .ok (.iload 4, 2) := by decide +kernel
theorem dX9_scanOne_167 : decode cX9_scanOne 167 = .ok (.ireturn, 1) := by decide +kernel
theorem dX9_scanOne_153 : decode cX9_scanOne 153 = .ok (.sipush 263, 3) := by decide +kernel
theorem dX9_scanOne_156 : decode cX9_scanOne 156 = .ok (.goto 6, 3) := by decide +kernel
theorem dX9_scanOne_62 : decode cX9_scanOne 62 = .ok (.aload_n 0, 1) := by decide +kernel
theorem dX9_scanOne_63 : decode cX9_scanOne 63 = .ok (.iload 4, 2) := by decide +kernel
theorem dX9_scanOne_65 : decode cX9_scanOne 65 = .ok (.iload_n 3, 1) := by decide +kernel
theorem dX9_scanOne_66 : decode cX9_scanOne 66 = .ok (.isub, 1) := by decide +kernel
theorem dX9_scanOne_67 : decode cX9_scanOne 67 = .ok (.bipush 6, 2) := by decide +kernel
theorem dX9_scanOne_69 : decode cX9_scanOne 69 = .ok (.if_icmp .le 9, 3) := by decide +kernel
theorem dX9_scanOne_78 : decode cX9_scanOne 78 = .ok (.aload_n 0, 1) := by decide +kernel
theorem dX9_scanOne_79 : decode cX9_scanOne 79 = .ok (.invokevirtual 58, 3) := by decide +kernel
theorem dX9_scanOne_82 : decode cX9_scanOne 82 = .ok (.putfield 30, 3) := by decide +kernel
theorem dX9_scanOne_85 : decode cX9_scanOne 85 = .ok (.iload 4, 2) := by decide +kernel
theorem dX9_scanOne_87 : decode cX9_scanOne 87 = .ok (.ireturn, 1) := by decide +kernel
theorem dX9_scanOne_72 : decode cX9_scanOne 72 = .ok (.sipush 263, 3) := by decide +kernel
theorem dX9_scanOne_75 : decode cX9_scanOne 75 = .ok (.goto 7, 3) := by decide +kernel
set_option maxRecDepth 20000 in
theorem k_X9_scanOne (d : Nat) {T : CT} {σ : MS} {a : Nat} {t : Nat} {l : Int} {i : Int} (ha : OB T a 9) (h_t : (T t).1 = 2) (l_t : (T t).2 ≤ 1000000) (h_l : -2147483648 ≤ l ∧ l ≤ 2147483647) (h_i : -2147483648 ≤ i ∧ i ≤ 2147483647) (hw : WT T σ) (hi : 0 ≤ i ∧ i < l ∧ l ≤ 1200) (ht : (T t).2 = 1200) : Tn (d + 2) m_X9_scanOne 0 T σ [(0, .ref a), (1, .ref t), (2, .int (iI l)), (3, .int (iI i))] [] (fun ro T2 σ2 => ∃ v : Int, ro = some (.int (iI v)) ∧ T = T2 ∧ WT T2 σ2 ∧ FrC T [85, 86] σ σ2 ∧ (-2147483648 ≤ v ∧ v ≤ 2147483647) ∧ (i < v ∧ v ≤ l)) := by
  refine tn_iload_n dX9_scanOne_0 rfl 3 rfl ?_
  refine tn_istore (L' := [(4, .int (iI i)), (0, .ref a), (1, .ref t), (2, .int (iI l)), (3, .int (iI i))]) dX9_scanOne_1 (by decide) rfl ?_
  refine tn_aload_n dX9_scanOne_3 rfl 1 rfl ?_
  refine tn_iconst dX9_scanOne_4 ?_
  refine tn_putV (ci := 9) (i := 5) (n := 86) (r := false) (v := 0) tyX9 tyX9_ok nmX9 dX9_scanOne_5 rfl lay_9 (by decide) fl9_55 rfl (tyX9_ok 5 (by decide)) rfl rfl rfl ha rfl rfl ?_
  refine tn_sub [1, 2, 3, 4, 0] rfl (l_X9_scanOne_8 (d) (T := T) (σ0 := (sA 86 a (0) σ)) (a := a) (rx1 := t) (c2 := l) (c3 := i) ha h_t (by omega) (by omega) (by omega) (hw.put (by decide) (by decide) (fo_86 (by omega))) (by omega) (fun i41 σ2 w5 F6 r7 f8 => ?_) _ (i) (sA 86 a (0) σ) (hw.put (by decide) (by decide) (fo_86 (by omega))) FrC.rfl (by omega) (by omega) rfl)
  show Tn _ _ 56 T σ2 [(0, .ref a), (1, .ref t), (2, .int (iI l)), (3, .int (iI i)), (4, .int (iI i41))] [] _
  refine tn_iload dX9_scanOne_56 4 rfl ?_
  refine tn_iload_n dX9_scanOne_58 rfl 3 rfl ?_
  refine tn_icmp_le (tgt := 88) dX9_scanOne_59 (by decide) ⟨by omega, by omega⟩ ⟨by omega, by omega⟩ (fun h9 => ?_) (fun h9 => ?_)
  · refine tn_sub [0, 1, 2, 3, 4] rfl (l_X9_scanOne_88 (d) (T := T) (σ0 := σ2) (a := a) (rx1 := t) (c2 := l) (c3 := i) ha h_t (by omega) (by omega) (by omega) w5 (by omega) (fun i410 σ11 w14 F15 r16 f17 => ?_) _ (i41) σ2 w5 FrC.rfl (by omega) (by omega) rfl)
    show Tn _ _ 137 T σ11 [(0, .ref a), (1, .ref t), (2, .int (iI l)), (3, .int (iI i)), (4, .int (iI i410))] [] _
    refine tn_iload dX9_scanOne_137 4 rfl ?_
    refine tn_iload_n dX9_scanOne_139 rfl 3 rfl ?_
    refine tn_icmp_le (tgt := 168) dX9_scanOne_140 (by decide) ⟨by omega, by omega⟩ ⟨by omega, by omega⟩ (fun h18 => ?_) (fun h18 => ?_)
    · refine tn_aload_n dX9_scanOne_168 rfl 0 rfl ?_
      refine tn_aload_n dX9_scanOne_169 rfl 1 rfl ?_
      refine tn_iload_n dX9_scanOne_170 rfl 3 rfl ?_
      refine tn_baldX (z := i) w14 dX9_scanOne_171 h_t (by omega) (by omega) (by omega) (fun v19 g20 => ?_)
      refine tn_callS (M := m_X9_scanOne) (pc := 172) (ix := 62) (M' := m_X9_isSign) (As := [.int (iI v19)]) (rest := [.ref a]) dX9_scanOne_172 ok_X9_isSign stt_X9_isSign ml9_62 np_X9_isSign rfl (Nat.le_of_ble_eq_true rfl) (Nat.le_of_ble_eq_true rfl) rfl (k_X9_isSign (d) (T := T) (σ := σ11) (p1 := v19) (by omega) w14 ) (fun r21 T23 σ22 gt24 hp => ?_)
      obtain ⟨v26, rfl, rfl, rfl, f25⟩ := hp
      clear gt24
      show Tn _ _ 175 T σ11 [(0, .ref a), (1, .ref t), (2, .int (iI l)), (3, .int (iI i)), (4, .int (iI i410))] [.int (iI v26), .ref a] _
      refine tn_if_eq (tgt := 184) dX9_scanOne_175 (by decide) ⟨by omega, by omega⟩ (fun h27 => ?_) (fun h27 => ?_)
      · refine tn_sipush dX9_scanOne_184 (by decide) ?_
        refine tn_putV (ci := 9) (i := 4) (n := 85) (r := false) (v := 263) tyX9 tyX9_ok nmX9 dX9_scanOne_187 rfl lay_9 (by decide) fl9_30 rfl (tyX9_ok 4 (by decide)) rfl rfl rfl ha rfl rfl ?_
        refine tn_iload_n dX9_scanOne_190 rfl 3 rfl ?_
        refine tn_iconst dX9_scanOne_191 ?_
        refine tn_iadd dX9_scanOne_192 ?_
        exact tn_iret rfl dX9_scanOne_193 ⟨_, rfl, rfl, (w14.put (by decide) (by decide) (fo_85 (by omega))), ((((FrC.rfl.put (by decide) (by decide)).trans (FrC.sub F6 (by decide))).trans (FrC.sub F15 (by decide))).put (by decide) (by decide)), by omega, by omega⟩
      · refine tn_aload_n dX9_scanOne_178 rfl 1 rfl ?_
        refine tn_iload_n dX9_scanOne_179 rfl 3 rfl ?_
        refine tn_baldX (z := i) w14 dX9_scanOne_180 h_t (by omega) (by omega) (by omega) (fun v28 g29 => ?_)
        refine tn_goto (tgt := 187) dX9_scanOne_181 (by decide) ?_
        refine tn_putV (ci := 9) (i := 4) (n := 85) (r := false) (v := v28) tyX9 tyX9_ok nmX9 dX9_scanOne_187 rfl lay_9 (by decide) fl9_30 rfl (tyX9_ok 4 (by decide)) rfl rfl rfl ha rfl rfl ?_
        refine tn_iload_n dX9_scanOne_190 rfl 3 rfl ?_
        refine tn_iconst dX9_scanOne_191 ?_
        refine tn_iadd dX9_scanOne_192 ?_
        exact tn_iret rfl dX9_scanOne_193 ⟨_, rfl, rfl, (w14.put (by decide) (by decide) (fo_85 (by omega))), ((((FrC.rfl.put (by decide) (by decide)).trans (FrC.sub F6 (by decide))).trans (FrC.sub F15 (by decide))).put (by decide) (by decide)), by omega, by omega⟩
    · refine tn_aload_n dX9_scanOne_143 rfl 0 rfl ?_
      refine tn_iload dX9_scanOne_144 4 rfl ?_
      refine tn_iload_n dX9_scanOne_146 rfl 3 rfl ?_
      refine tn_isub dX9_scanOne_147 ?_
      refine tn_bipush dX9_scanOne_148 (by decide) ?_
      refine tn_icmp_le (tgt := 159) dX9_scanOne_150 (by decide) ⟨by omega, by omega⟩ ⟨by decide, by decide⟩ (fun h30 => ?_) (fun h30 => ?_)
      · refine tn_sipush dX9_scanOne_159 (by decide) ?_
        refine tn_putV (ci := 9) (i := 4) (n := 85) (r := false) (v := 257) tyX9 tyX9_ok nmX9 dX9_scanOne_162 rfl lay_9 (by decide) fl9_30 rfl (tyX9_ok 4 (by decide)) rfl rfl rfl ha rfl rfl ?_
        refine tn_iload dX9_scanOne_165 4 rfl ?_
        exact tn_iret rfl dX9_scanOne_167 ⟨_, rfl, rfl, (w14.put (by decide) (by decide) (fo_85 (by omega))), ((((FrC.rfl.put (by decide) (by decide)).trans (FrC.sub F6 (by decide))).trans (FrC.sub F15 (by decide))).put (by decide) (by decide)), by omega, by omega⟩
      · refine tn_sipush dX9_scanOne_153 (by decide) ?_
        refine tn_goto (tgt := 162) dX9_scanOne_156 (by decide) ?_
        refine tn_putV (ci := 9) (i := 4) (n := 85) (r := false) (v := 263) tyX9 tyX9_ok nmX9 dX9_scanOne_162 rfl lay_9 (by decide) fl9_30 rfl (tyX9_ok 4 (by decide)) rfl rfl rfl ha rfl rfl ?_
        refine tn_iload dX9_scanOne_165 4 rfl ?_
        exact tn_iret rfl dX9_scanOne_167 ⟨_, rfl, rfl, (w14.put (by decide) (by decide) (fo_85 (by omega))), ((((FrC.rfl.put (by decide) (by decide)).trans (FrC.sub F6 (by decide))).trans (FrC.sub F15 (by decide))).put (by decide) (by decide)), by omega, by omega⟩
  · refine tn_aload_n dX9_scanOne_62 rfl 0 rfl ?_
    refine tn_iload dX9_scanOne_63 4 rfl ?_
    refine tn_iload_n dX9_scanOne_65 rfl 3 rfl ?_
    refine tn_isub dX9_scanOne_66 ?_
    refine tn_bipush dX9_scanOne_67 (by decide) ?_
    refine tn_icmp_le (tgt := 78) dX9_scanOne_69 (by decide) ⟨by omega, by omega⟩ ⟨by decide, by decide⟩ (fun h31 => ?_) (fun h31 => ?_)
    · refine tn_aload_n dX9_scanOne_78 rfl 0 rfl ?_
      refine tn_callV (M := m_X9_scanOne) (pc := 79) (ix := 58) (ci := 9) (M' := m_X9_wordKind) (As := []) (rest := [.ref a]) dX9_scanOne_79 ok_X9_wordKind im_X9_wordKind se_X9_wordKind ml9_58 np_X9_wordKind rfl rfl ha rfl (Nat.le_of_ble_eq_true rfl) (Nat.le_of_ble_eq_true rfl) rfl (k_X9_wordKind (d) (T := T) (σ := σ2) (a := a) ha w5 ) (fun r32 T34 σ33 gt35 hp => ?_)
      obtain ⟨v37, rfl, rfl, rfl, f36⟩ := hp
      clear gt35
      show Tn _ _ 82 T σ2 [(0, .ref a), (1, .ref t), (2, .int (iI l)), (3, .int (iI i)), (4, .int (iI i41))] [.int (iI v37), .ref a] _
      refine tn_putV (ci := 9) (i := 4) (n := 85) (r := false) (v := v37) tyX9 tyX9_ok nmX9 dX9_scanOne_82 rfl lay_9 (by decide) fl9_30 rfl (tyX9_ok 4 (by decide)) rfl rfl rfl ha rfl rfl ?_
      refine tn_iload dX9_scanOne_85 4 rfl ?_
      exact tn_iret rfl dX9_scanOne_87 ⟨_, rfl, rfl, (w5.put (by decide) (by decide) (fo_85 (by omega))), (((FrC.rfl.put (by decide) (by decide)).trans (FrC.sub F6 (by decide))).put (by decide) (by decide)), by omega, by omega⟩
    · refine tn_sipush dX9_scanOne_72 (by decide) ?_
      refine tn_goto (tgt := 82) dX9_scanOne_75 (by decide) ?_
      refine tn_putV (ci := 9) (i := 4) (n := 85) (r := false) (v := 263) tyX9 tyX9_ok nmX9 dX9_scanOne_82 rfl lay_9 (by decide) fl9_30 rfl (tyX9_ok 4 (by decide)) rfl rfl rfl ha rfl rfl ?_
      refine tn_iload dX9_scanOne_85 4 rfl ?_
      exact tn_iret rfl dX9_scanOne_87 ⟨_, rfl, rfl, (w5.put (by decide) (by decide) (fo_85 (by omega))), (((FrC.rfl.put (by decide) (by decide)).trans (FrC.sub F6 (by decide))).put (by decide) (by decide)), by omega, by omega⟩
