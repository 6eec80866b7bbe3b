theorem cd_X5_call : Cond.code yX5_call cX5_call 6 (some .boolean) ∈ pWW := pw3 (List.mem_of_getElem? (i := 158) rfl) rfl
abbrev m_X5_call : MT := (yX5_call, cX5_call, 6, (some .boolean))
theorem ok_X5_call : pOk m_X5_call := ⟨⟨cd_X5_call, ini_5⟩, by decide +kernel, ⟨by decide +kernel, by decide +kernel⟩, Nat.le_of_ble_eq_true rfl⟩
theorem np_X5_call : (parseMethodDescriptor yX5_call.desc).map (fun d => d.parameters.length) = some 1 := by decide +kernel
theorem im_X5_call : Cond.instanceMethod yX5_call ∈ pWW := pw3 (List.mem_of_getElem? (i := 157) rfl) rfl
theorem se_X5_call : Cond.selects RX5 yX5_call yX5_call ∈ pWW := pws (List.mem_map.mpr ⟨_, lw_pin 17 rfl, rfl⟩) rfl
theorem fl5_43 : Cond.fieldLink RX5 43 (TX5 16).1 (TX5 16).2.1 (TX5 16).2.2.1 ∈ pWW := pw1 (List.mem_of_getElem? (i := 172) rfl) rfl
theorem ml5_222 : Cond.methodLink RX5 222 yJ7_fill_53178 ∈ pWW := pw3 (List.mem_of_getElem? (i := 159) rfl) rfl
theorem dX5_call_0 : decode cX5_call 0 = .ok (.aload_n 0, 1) := by decide +kernel
theorem dX5_call_1 : decode cX5_call 1 = .ok (.getfield 12, 3) := by decide +kernel
theorem dX5_call_4 : decode cX5_call 4 = .ok (.getfield 96, 3) := by decide +kernel
theorem dX5_call_7 : decode cX5_call 7 = .ok (.istore_n 2, 1) := by decide +kernel
theorem dX5_call_8 : decode cX5_call 8 = .ok (.aload_n 0, 1) := by decide +kernel
theorem dX5_call_9 : decode cX5_call 9 = .ok (.getfield 12, 3) := by decide +kernel
theorem dX5_call_12 : decode cX5_call 12 = .ok (.getfield 74, 3) := by decide +kernel
theorem dX5_call_15 : decode cX5_call 15 = .ok (.istore_n 3, 1) := by decide +kernel
theorem dX5_call_16 : decode cX5_call 16 = .ok (.aload_n 0, 1) := by decide +kernel
theorem dX5_call_17 : decode cX5_call 17 = .ok (.getfield 12, 3) := by decide +kernel
theorem dX5_call_20 : decode cX5_call 20 = .ok (.invokevirtual 93, 3) := by decide +kernel
theorem dX5_call_23 : decode cX5_call 23 = .ok (.aload_n 0, 1) := by decide +kernel
theorem dX5_call_24 : decode cX5_call 24 = .ok (.getfield 12, 3) := by decide +kernel
theorem dX5_call_27 : decode cX5_call 27 = .ok (.invokevirtual 93, 3) := by decide +kernel
theorem dX5_call_30 : decode cX5_call 30 = .ok (.iconst 0, 1) := by decide +kernel
theorem dX5_call_31 : decode cX5_call 31 = .ok (.istore 4, 2) := by decide +kernel
theorem dX5_call_33 : decode cX5_call 33 = .ok (.aload_n 0, 1) := by decide +kernel
theorem dX5_call_34 : decode cX5_call 34 = .ok (.getfield 43, 3) := by decide +kernel
theorem dX5_call_37 : decode cX5_call 37 = .ok (.iconst 0, 1) := by decide +kernel
theorem dX5_call_38 : decode cX5_call 38 = .ok (.invokestatic 222, 3) := by decide +kernel
theorem dX5_call_41 : decode cX5_call 41 = .ok (.iconst 0, 1) := by decide +kernel
theorem dX5_call_42 : decode cX5_call 42 = .ok (.istore 5, 2) := by decide +kernel
theorem dX5_call_44 : decode cX5_call 44 = .ok (.iload 5, 2) := by decide +kernel
theorem dX5_call_46 : decode cX5_call 46 = .ok (.sipush 1200, 3) := by decide +kernel
theorem dX5_call_49 : decode cX5_call 49 = .ok (.if_icmp .ge 93, 3) := by decide +kernel
theorem dX5_call_52 : decode cX5_call 52 = .ok (.aload_n 0, 1) := by decide +kernel
theorem dX5_call_53 : decode cX5_call 53 = .ok (.getfield 12, 3) := by decide +kernel
theorem dX5_call_56 : decode cX5_call 56 = .ok (.getfield 71, 3) := by decide +kernel
theorem dX5_call_59 : decode cX5_call 59 = .ok (.bipush 41, 2) := by decide +kernel
theorem dX5_call_61 : decode cX5_call 61 = .ok (.if_icmp .ne 8, 3) := by decide +kernel
theorem dX5_call_69 : decode cX5_call 69 = .ok (.aload_n 0, 1) := by decide +kernel
theorem dX5_call_70 : decode cX5_call 70 = .ok (.iconst 1, 1) := by decide +kernel
theorem dX5_call_71 : decode cX5_call 71 = .ok (.invokevirtual 213, 3) := by decide +kernel
theorem dX5_call_74 : decode cX5_call 74 = .ok (.ifCond .ne 5, 3) := by decide +kernel
theorem dX5_call_79 : decode cX5_call 79 = .ok (.aload_n 0, 1) := by decide +kernel
theorem dX5_call_80 : decode cX5_call 80 = .ok (.getfield 43, 3) := by decide +kernel
theorem dX5_call_83 : decode cX5_call 83 = .ok (.iconst 2, 1) := by decide +kernel
theorem dX5_call_84 : decode cX5_call 84 = .ok (.iload 4, 2) := by decide +kernel
theorem dX5_call_86 : decode cX5_call 86 = .ok (.imul, 1) := by decide +kernel
theorem dX5_call_87 : decode cX5_call 87 = .ok (.aload_n 0, 1) := by decide +kernel
theorem dX5_call_88 : decode cX5_call 88 = .ok (.getfield 216, 3) := by decide +kernel
theorem dX5_call_91 : decode cX5_call 91 = .ok (.invokestatic 129, 3) := by decide +kernel
theorem dX5_call_94 : decode cX5_call 94 = .ok (.aload_n 0, 1) := by decide +kernel
theorem dX5_call_95 : decode cX5_call 95 = .ok (.getfield 43, 3) := by decide +kernel
theorem dX5_call_98 : decode cX5_call 98 = .ok (.iconst 2, 1) := by decide +kernel
theorem dX5_call_99 : decode cX5_call 99 = .ok (.iload 4, 2) := by decide +kernel
theorem dX5_call_101 : decode cX5_call 101 = .ok (.imul, 1) := by decide +kernel
theorem dX5_call_102 : decode cX5_call 102 = .ok (.iconst 1, 1) := by decide +kernel
theorem dX5_call_103 : decode cX5_call 103 = .ok (.iadd, 1) := by decide +kernel
theorem dX5_call_104 : decode cX5_call 104 = .ok (.aload_n 0, 1) := by decide +kernel
theorem dX5_call_105 : decode cX5_call 105 = .ok (.getfield 219, 3) := by decide +kernel
theorem dX5_call_108 : decode cX5_call 108 = .ok (.invokestatic 129, 3) := by decide +kernel
theorem dX5_call_111 : decode cX5_call 111 = .ok (.iinc 4 1, 3) := by decide +kernel
theorem dX5_call_114 : decode cX5_call 114 = .ok (.aload_n 0, 1) := by decide +kernel
theorem dX5_call_115 : decode cX5_call 115 = .ok (.getfield 12, 3) := by decide +kernel
theorem dX5_call_118 : decode cX5_call 118 = .ok (.getfield 71, 3) := by decide +kernel
theorem dX5_call_121 : decode cX5_call 121 = .ok (.bipush 44, 2) := by decide +kernel
theorem dX5_call_123 : decode cX5_call 123 = .ok (.if_icmp .eq 6, 3) := by decide +kernel
theorem dX5_call_129 : decode cX5_call 129 = .ok (.aload_n 0, 1) := by decide +kernel
theorem dX5_call_130 : decode cX5_call 130 = .ok (.getfield 12, 3) := by decide +kernel
theorem dX5_call_133 : decode cX5_call 133 = .ok (.invokevirtual 93, 3) := by decide +kernel
theorem dX5_call_136 : decode cX5_call 136 = .ok (.iinc 5 1, 3) := by decide +kernel
theorem dX5_call_139 : decode cX5_call 139 = .ok (.goto (-95), 3) := by decide +kernel
theorem dX5_call_64 : decode cX5_call 64 = .ok (.iload 4, 2) := by decide +kernel
theorem dX5_call_66 : decode cX5_call 66 = .ok (.ifCond .le 76, 3) := by decide +kernel
set_option maxRecDepth 20000 in
theorem l_X5_call_44 (d : Nat) {T0 : CT} {σ0 : MS} {a : Nat} {c1 : Int} {c2 : Int} {c3 : Int} {kp : Int} {post : Option Value → CT → MS → Prop} (r_c1 : -2147483648 ≤ c1 ∧ c1 ≤ 2147483647) (r_c2 : -2147483648 ≤ c2 ∧ c2 ≤ 2147483647) (r_c3 : -2147483648 ≤ c3 ∧ c3 ≤ 2147483647) (hw0 : WT T0 σ0) (hkp : kp ≤ 150) (hx_77 : ∀ (T : CT) (i4 : Int) (i5 : Int) (σ : MS) , (GT T0 T) → (WT T σ) → (FrC T0 [5, 6, 7, 43, 44, 47, 50, 51, 84, 85, 86, 87, 521] σ0 σ) → (OB T a 5) → (-2147483648 ≤ i4 ∧ i4 ≤ 2147483647) → (0 ≤ i5 ∧ i5 ≤ 2147483647) → (RP σ a kp) → Tn (d + 51) m_X5_call 77 T σ [(0, .ref a), (1, .int (iI c1)), (2, .int (iI c2)), (3, .int (iI c3)), (4, .int (iI i4)), (5, .int (iI i5))] [] post) (hx_126 : ∀ (T : CT) (i4 : Int) (i5 : Int) (σ : MS) , (GT T0 T) → (WT T σ) → (FrC T0 [5, 6, 7, 43, 44, 47, 50, 51, 84, 85, 86, 87, 521] σ0 σ) → (OB T a 5) → (-2147483648 ≤ i4 ∧ i4 ≤ 2147483647) → (0 ≤ i5 ∧ i5 ≤ 2147483647) → (RP σ a kp) → Tn (d + 51) m_X5_call 126 T σ [(0, .ref a), (1, .int (iI c1)), (2, .int (iI c2)), (3, .int (iI c3)), (4, .int (iI i4)), (5, .int (iI i5))] [] post) (hx_142 : ∀ (T : CT) (i4 : Int) (i5 : Int) (σ : MS) , (GT T0 T) → (WT T σ) → (FrC T0 [5, 6, 7, 43, 44, 47, 50, 51, 84, 85, 86, 87, 521] σ0 σ) → (OB T a 5) → (-2147483648 ≤ i4 ∧ i4 ≤ 2147483647) → (0 ≤ i5 ∧ i5 ≤ 2147483647) → (RP σ a kp) → Tn (d + 51) m_X5_call 142 T σ [(0, .ref a), (1, .int (iI c1)), (2, .int (iI c2)), (3, .int (iI c3)), (4, .int (iI i4)), (5, .int (iI i5))] [] post) : ∀ (n : Nat) (T : CT) (i4 : Int) (i5 : Int) (σ : MS) , (GT T0 T) → (WT T σ) → (FrC T0 [5, 6, 7, 43, 44, 47, 50, 51, 84, 85, 86, 87, 521] σ0 σ) → (OB T a 5) → (-2147483648 ≤ i4 ∧ i4 ≤ 2147483647) → (0 ≤ i5 ∧ i5 ≤ 2147483647) → (RP σ a kp) → (2147483700 - i5).toNat = n → Tn (d + 51) m_X5_call 44 T σ [(0, .ref a), (1, .int (iI c1)), (2, .int (iI c2)), (3, .int (iI c3)), (4, .int (iI i4)), (5, .int (iI i5))] [] post := by
  intro n
  induction n using Nat.strongRecOn with
  | _ n ih =>
    intro T i4 i5 σ hG hw hF h_a r_i4 r_i5 hrp hm
    refine tn_iload dX5_call_44 5 rfl ?_
    refine tn_sipush dX5_call_46 (by decide) ?_
    refine tn_icmp_ge (tgt := 142) dX5_call_49 (by decide) ⟨by omega, by omega⟩ ⟨by decide, by decide⟩ (fun h1 => ?_) (fun h1 => ?_)
    · exact tn_sub [0, 1, 2, 3, 4, 5] rfl (hx_142 T (i4) (i5) σ hG hw (FrC.rfl.trans (FrC.sub hF (by decide))) h_a (by omega) (by omega) (RP.up hrp (by omega)))
    · refine tn_aload_n dX5_call_52 rfl 0 rfl ?_
      obtain ⟨x2, hx3, hk4⟩ : ∃ x : Nat, σ.2.1 33 a = (x : Int) ∧ (T x).1 = 39 := wf_33 hw h_a
      have hk4o : OB T x2 9 := ⟨by omega, by rw [hk4]; rfl, by omega⟩
      refine tn_getR (ci := 5) (i := 0) (n := 33) (x := x2) dX5_call_53 rfl lay_5 (by decide) fl5_12 h_a rfl rfl (hx3) ?_
      refine tn_getI (ci := 9) (i := 4) (n := 85) (t := σ.2.1 85 x2) dX5_call_56 rfl lay_9 (by decide) fl5_71 hk4o rfl rfl (rfl) ?_
      have g6 : ((-2147483648 : Int) ≤ σ.2.1 85 x2 ∧ σ.2.1 85 x2 ≤ 2147483647) := wf_85 hw hk4o
      refine tn_bipush dX5_call_59 (by decide) ?_
      refine tn_icmp_ne (tgt := 69) dX5_call_61 (by decide) ⟨by omega, by omega⟩ ⟨by decide, by decide⟩ (fun h7 => ?_) (fun h7 => ?_)
      · refine tn_aload_n dX5_call_69 rfl 0 rfl ?_
        refine tn_iconst dX5_call_70 ?_
        refine tn_callV (M := m_X5_call) (pc := 71) (ix := 213) (ci := 5) (M' := m_X5_expression) (As := [.int (iI 1)]) (rest := []) dX5_call_71 ok_X5_expression im_X5_expression se_X5_expression ml5_213 np_X5_expression rfl rfl h_a rfl (Nat.le_of_ble_eq_true rfl) (Nat.le_of_ble_eq_true rfl) rfl (k_X5_expression (d) (T := T) (σ := σ) (a := a) (dp := 1) (kp := kp) h_a (by decide) hw (by omega) (by omega) hrp) (fun r8 T10 σ9 gt11 hp => ?_)
        obtain ⟨v14, rfl, w15, F16, f12, f13⟩ := hp
        replace h_a : OB T10 a 5 := gt11.ob h_a
        show Tn _ _ 74 T10 σ9 [(0, .ref a), (1, .int (iI c1)), (2, .int (iI c2)), (3, .int (iI c3)), (4, .int (iI i4)), (5, .int (iI i5))] [.int (iI v14)] _
        refine tn_if_ne (tgt := 79) dX5_call_74 (by decide) ⟨by omega, by omega⟩ (fun h18 => ?_) (fun h18 => ?_)
        · refine tn_aload_n dX5_call_79 rfl 0 rfl ?_
          obtain ⟨x19, hx20, hk21, hl22⟩ : ∃ x : Nat, σ9.2.1 49 a = (x : Int) ∧ AR T10 x 1 8 8 := wf_49 w15 h_a
          have hk21i : IA T10 x19 := by unfold IA; omega
          refine tn_getR (ci := 5) (i := 16) (n := 49) (x := x19) dX5_call_80 rfl lay_5 (by decide) fl5_43 h_a rfl rfl (hx20) ?_
          refine tn_iconst dX5_call_83 ?_
          refine tn_iload dX5_call_84 4 rfl ?_
          refine tn_imul dX5_call_86 ?_
          refine tn_any (fun z23 g24 => ?_)
          have g24r : -2147483648 ≤ z23 ∧ z23 ≤ 2147483647 := g24
          refine tn_aload_n dX5_call_87 rfl 0 rfl ?_
          refine tn_getI (ci := 5) (i := 17) (n := 50) (t := σ9.2.1 50 a) dX5_call_88 rfl lay_5 (by decide) fl5_216 h_a rfl rfl (rfl) ?_
          have g25 : ((-2147483648 : Int) ≤ σ9.2.1 50 a ∧ σ9.2.1 50 a ≤ 2147483647) := wf_50 w15 h_a
          refine tn_callSN (M := m_X5_call) (pc := 91) (ix := 129) (M' := m_X11_put) (As := [.ref x19, .int (iI z23), .int (iI (σ9.2.1 50 a))]) (rest := []) dX5_call_91 ok_X11_put stt_X11_put nl5_129 np_X11_put rfl (Nat.le_of_ble_eq_true rfl) (Nat.le_of_ble_eq_true rfl) rfl (k_X11_put (d + 49) (T := T10) (σ := σ9) (x := x19) (i := z23) (y := σ9.2.1 50 a) hk21i (by omega) (by omega) (by omega) w15 (nh_k hk21 (by unfold HT; omega)) (vok_1 (by have q9 := hk21; omega) (by omega))) (fun r26 T28 σ27 gt29 hp => ?_)
          obtain ⟨rfl, rfl, w31, F32⟩ := hp
          clear gt29
          have rp33 : RP σ27 a (kp - 4 * v14) := RP.frc f13 F32 (by decide) (by decide) (by decide) (by decide) (by decide)
          show Tn _ _ 94 T10 σ27 [(0, .ref a), (1, .int (iI c1)), (2, .int (iI c2)), (3, .int (iI c3)), (4, .int (iI i4)), (5, .int (iI i5))] [] _
          refine tn_aload_n dX5_call_94 rfl 0 rfl ?_
          refine tn_getR (ci := 5) (i := 16) (n := 49) (x := x19) dX5_call_95 rfl lay_5 (by decide) fl5_43 h_a rfl rfl (rc_F F32 (Or.inl (by decide)) (by decide) (hx20)) ?_
          refine tn_iconst dX5_call_98 ?_
          refine tn_iload dX5_call_99 4 rfl ?_
          refine tn_imul dX5_call_101 ?_
          refine tn_any (fun z34 g35 => ?_)
          have g35r : -2147483648 ≤ z34 ∧ z34 ≤ 2147483647 := g35
          refine tn_iconst dX5_call_102 ?_
          refine tn_iadd dX5_call_103 ?_
          refine tn_any (fun z36 g37 => ?_)
          have g37r : -2147483648 ≤ z36 ∧ z36 ≤ 2147483647 := g37
          refine tn_aload_n dX5_call_104 rfl 0 rfl ?_
          refine tn_getI (ci := 5) (i := 18) (n := 51) (t := σ9.2.1 51 a) dX5_call_105 rfl lay_5 (by decide) fl5_219 h_a rfl rfl (rc_F F32 (Or.inl (by decide)) (by decide) (rfl)) ?_
          have g38 : ((-2147483648 : Int) ≤ σ9.2.1 51 a ∧ σ9.2.1 51 a ≤ 2147483647) := wf_51 w15 h_a
          refine tn_callSN (M := m_X5_call) (pc := 108) (ix := 129) (M' := m_X11_put) (As := [.ref x19, .int (iI z36), .int (iI (σ9.2.1 51 a))]) (rest := []) dX5_call_108 ok_X11_put stt_X11_put nl5_129 np_X11_put rfl (Nat.le_of_ble_eq_true rfl) (Nat.le_of_ble_eq_true rfl) rfl (k_X11_put (d + 49) (T := T10) (σ := σ27) (x := x19) (i := z36) (y := σ9.2.1 51 a) hk21i (by omega) (by omega) (by omega) w31 (nh_k hk21 (by unfold HT; omega)) (vok_1 (by have q9 := hk21; omega) (by omega))) (fun r39 T41 σ40 gt42 hp => ?_)
          obtain ⟨rfl, rfl, w44, F45⟩ := hp
          clear gt42
          have rp46 : RP σ40 a (kp - 4 * v14) := RP.frc rp33 F45 (by decide) (by decide) (by decide) (by decide) (by decide)
          show Tn _ _ 111 T10 σ40 [(0, .ref a), (1, .int (iI c1)), (2, .int (iI c2)), (3, .int (iI c3)), (4, .int (iI i4)), (5, .int (iI i5))] [] _
          refine tn_iinc (q0 := 4) (L' := [(4, .int (iI (i4 + 1))), (0, .ref a), (1, .int (iI c1)), (2, .int (iI c2)), (3, .int (iI c3)), (5, .int (iI i5))]) dX5_call_111 rfl (by decide) rfl ?_
          obtain ⟨z47, g48, g48e⟩ := wr_ex (i4 + 1)
          rw [g48e]
          have g48r : -2147483648 ≤ z47 ∧ z47 ≤ 2147483647 := g48
          refine tn_aload_n dX5_call_114 rfl 1 rfl ?_
          obtain ⟨x49, hx50, hk51⟩ : ∃ x : Nat, σ9.2.1 33 a = (x : Int) ∧ (T10 x).1 = 39 := wf_33 w15 h_a
          have hk51o : OB T10 x49 9 := ⟨by omega, by rw [hk51]; rfl, by omega⟩
          refine tn_getR (ci := 5) (i := 0) (n := 33) (x := x49) dX5_call_115 rfl lay_5 (by decide) fl5_12 h_a rfl rfl (rc_F F45 (Or.inl (by decide)) (by decide) (rc_F F32 (Or.inl (by decide)) (by decide) (hx50))) ?_
          refine tn_getI (ci := 9) (i := 4) (n := 85) (t := σ9.2.1 85 x49) dX5_call_118 rfl lay_9 (by decide) fl5_71 hk51o rfl rfl (rc_F F45 (Or.inl (by decide)) (by decide) (rc_F F32 (Or.inl (by decide)) (by decide) (rfl))) ?_
          have g53 : ((-2147483648 : Int) ≤ σ9.2.1 85 x49 ∧ σ9.2.1 85 x49 ≤ 2147483647) := wf_85 w15 hk51o
          refine tn_bipush dX5_call_121 (by decide) ?_
          refine tn_icmp_eq (tgt := 129) dX5_call_123 (by decide) ⟨by omega, by omega⟩ ⟨by decide, by decide⟩ (fun h54 => ?_) (fun h54 => ?_)
          · refine tn_aload_n dX5_call_129 rfl 1 rfl ?_
            refine tn_getR (ci := 5) (i := 0) (n := 33) (x := x49) dX5_call_130 rfl lay_5 (by decide) fl5_12 h_a rfl rfl (rc_F F45 (Or.inl (by decide)) (by decide) (rc_F F32 (Or.inl (by decide)) (by decide) (hx50))) ?_
            have q59 : σ40.2.1 84 x49 = σ9.2.1 84 x49 := rc_F F45 (Or.inl (by decide)) (by decide) (rc_F F32 (Or.inl (by decide)) (by decide) (rfl))
            refine tn_callV (M := m_X5_call) (pc := 133) (ix := 93) (ci := 9) (M' := m_X9_next) (As := []) (rest := []) dX5_call_133 ok_X9_next im_X9_next se_X9_next ml5_93 np_X9_next rfl rfl hk51o rfl (Nat.le_of_ble_eq_true rfl) (Nat.le_of_ble_eq_true rfl) rfl (k_X9_next (d + 49) (T := T10) (σ := σ40) (a := x49) hk51o w44 (RP.tk rp46 w44 h_a (rc_F F45 (Or.inl (by decide)) (by decide) (rc_F F32 (Or.inl (by decide)) (by decide) (hx50))))) (fun r55 T57 σ56 gt58 hp => ?_)
            obtain ⟨rfl, rfl, w64, F65, f60, f61, f62⟩ := hp
            clear gt58
            have rp66 : RP σ56 a (kp - 4 * v14 - 4) := RP.next4 rp46 (rc_F F45 (Or.inl (by decide)) (by decide) (rc_F F32 (Or.inl (by decide)) (by decide) (hx50))) F65 (by decide) (by decide) (by decide) f60 f62 (by rw [show σ40.2.1 85 x49 = σ9.2.1 85 x49 from rc_F F45 (Or.inl (by decide)) (by decide) (rc_F F32 (Or.inl (by decide)) (by decide) (rfl))]; omega)
            show Tn _ _ 136 T10 σ56 [(4, .int (iI z47)), (0, .ref a), (1, .int (iI c1)), (2, .int (iI c2)), (3, .int (iI c3)), (5, .int (iI i5))] [] _
            refine tn_iinc (q0 := 5) (L' := [(5, .int (iI (i5 + 1))), (4, .int (iI z47)), (0, .ref a), (1, .int (iI c1)), (2, .int (iI c2)), (3, .int (iI c3))]) dX5_call_136 rfl (by decide) rfl ?_
            refine tn_goto (tgt := 44) dX5_call_139 (by decide) ?_
            exact tn_sub [2, 3, 4, 5, 1, 0] rfl (ih _ (by omega) T10 (z47) (i5 + 1) σ56 (GT.trans hG gt11) w64 (((((FrC.rfl.trans (FrC.sub hF (by decide))).trans (FrC.sub (FrC.old F16 hG) (by decide))).trans (FrC.sub (FrC.old F32 (GT.trans hG gt11)) (by decide))).trans (FrC.sub (FrC.old F45 (GT.trans hG gt11)) (by decide))).trans (FrC.sub (FrC.old F65 (GT.trans hG gt11)) (by decide))) h_a (by omega) (by omega) (RP.up rp66 (by omega)) rfl)
          · exact tn_sub [1, 2, 3, 4, 0, 5] rfl (hx_126 T10 (z47) (i5) σ40 (GT.trans hG gt11) w44 ((((FrC.rfl.trans (FrC.sub hF (by decide))).trans (FrC.sub (FrC.old F16 hG) (by decide))).trans (FrC.sub (FrC.old F32 (GT.trans hG gt11)) (by decide))).trans (FrC.sub (FrC.old F45 (GT.trans hG gt11)) (by decide))) h_a (by omega) (by omega) (RP.up rp46 (by omega)))
        · exact tn_sub [0, 1, 2, 3, 4, 5] rfl (hx_77 T10 (i4) (i5) σ9 (GT.trans hG gt11) w15 ((FrC.rfl.trans (FrC.sub hF (by decide))).trans (FrC.sub (FrC.old F16 hG) (by decide))) h_a (by omega) (by omega) (RP.up f13 (by omega)))
      · refine tn_iload dX5_call_64 4 rfl ?_
        refine tn_if_le (tgt := 142) dX5_call_66 (by decide) ⟨by omega, by omega⟩ (fun h67 => ?_) (fun h67 => ?_)
        · exact tn_sub [0, 1, 2, 3, 4, 5] rfl (hx_142 T (i4) (i5) σ hG hw (FrC.rfl.trans (FrC.sub hF (by decide))) h_a (by omega) (by omega) (RP.up hrp (by omega)))
        · refine tn_aload_n dX5_call_69 rfl 0 rfl ?_
          refine tn_iconst dX5_call_70 ?_
          refine tn_callV (M := m_X5_call) (pc := 71) (ix := 213) (ci := 5) (M' := m_X5_expression) (As := [.int (iI 1)]) (rest := []) dX5_call_71 ok_X5_expression im_X5_expression se_X5_expression ml5_213 np_X5_expression rfl rfl h_a rfl (Nat.le_of_ble_eq_true rfl) (Nat.le_of_ble_eq_true rfl) rfl (k_X5_expression (d) (T := T) (σ := σ) (a := a) (dp := 1) (kp := kp) h_a (by decide) hw (by omega) (by omega) hrp) (fun r68 T70 σ69 gt71 hp => ?_)
          obtain ⟨v74, rfl, w75, F76, f72, f73⟩ := hp
          replace h_a : OB T70 a 5 := gt71.ob h_a
          show Tn _ _ 74 T70 σ69 [(0, .ref a), (1, .int (iI c1)), (2, .int (iI c2)), (3, .int (iI c3)), (4, .int (iI i4)), (5, .int (iI i5))] [.int (iI v74)] _
          refine tn_if_ne (tgt := 79) dX5_call_74 (by decide) ⟨by omega, by omega⟩ (fun h78 => ?_) (fun h78 => ?_)
          · refine tn_aload_n dX5_call_79 rfl 0 rfl ?_
            obtain ⟨x79, hx80, hk81, hl82⟩ : ∃ x : Nat, σ69.2.1 49 a = (x : Int) ∧ AR T70 x 1 8 8 := wf_49 w75 h_a
            have hk81i : IA T70 x79 := by unfold IA; omega
            refine tn_getR (ci := 5) (i := 16) (n := 49) (x := x79) dX5_call_80 rfl lay_5 (by decide) fl5_43 h_a rfl rfl (hx80) ?_
            refine tn_iconst dX5_call_83 ?_
            refine tn_iload dX5_call_84 4 rfl ?_
            refine tn_imul dX5_call_86 ?_
            refine tn_any (fun z83 g84 => ?_)
            have g84r : -2147483648 ≤ z83 ∧ z83 ≤ 2147483647 := g84
            refine tn_aload_n dX5_call_87 rfl 0 rfl ?_
            refine tn_getI (ci := 5) (i := 17) (n := 50) (t := σ69.2.1 50 a) dX5_call_88 rfl lay_5 (by decide) fl5_216 h_a rfl rfl (rfl) ?_
            have g85 : ((-2147483648 : Int) ≤ σ69.2.1 50 a ∧ σ69.2.1 50 a ≤ 2147483647) := wf_50 w75 h_a
            refine tn_callSN (M := m_X5_call) (pc := 91) (ix := 129) (M' := m_X11_put) (As := [.ref x79, .int (iI z83), .int (iI (σ69.2.1 50 a))]) (rest := []) dX5_call_91 ok_X11_put stt_X11_put nl5_129 np_X11_put rfl (Nat.le_of_ble_eq_true rfl) (Nat.le_of_ble_eq_true rfl) rfl (k_X11_put (d + 49) (T := T70) (σ := σ69) (x := x79) (i := z83) (y := σ69.2.1 50 a) hk81i (by omega) (by omega) (by omega) w75 (nh_k hk81 (by unfold HT; omega)) (vok_1 (by have q9 := hk81; omega) (by omega))) (fun r86 T88 σ87 gt89 hp => ?_)
            obtain ⟨rfl, rfl, w91, F92⟩ := hp
            clear gt89
            have rp93 : RP σ87 a (kp - 4 * v74) := RP.frc f73 F92 (by decide) (by decide) (by decide) (by decide) (by decide)
            show Tn _ _ 94 T70 σ87 [(0, .ref a), (1, .int (iI c1)), (2, .int (iI c2)), (3, .int (iI c3)), (4, .int (iI i4)), (5, .int (iI i5))] [] _
            refine tn_aload_n dX5_call_94 rfl 0 rfl ?_
            refine tn_getR (ci := 5) (i := 16) (n := 49) (x := x79) dX5_call_95 rfl lay_5 (by decide) fl5_43 h_a rfl rfl (rc_F F92 (Or.inl (by decide)) (by decide) (hx80)) ?_
            refine tn_iconst dX5_call_98 ?_
            refine tn_iload dX5_call_99 4 rfl ?_
            refine tn_imul dX5_call_101 ?_
            refine tn_any (fun z94 g95 => ?_)
            have g95r : -2147483648 ≤ z94 ∧ z94 ≤ 2147483647 := g95
            refine tn_iconst dX5_call_102 ?_
            refine tn_iadd dX5_call_103 ?_
            refine tn_any (fun z96 g97 => ?_)
            have g97r : -2147483648 ≤ z96 ∧ z96 ≤ 2147483647 := g97
            refine tn_aload_n dX5_call_104 rfl 0 rfl ?_
            refine tn_getI (ci := 5) (i := 18) (n := 51) (t := σ69.2.1 51 a) dX5_call_105 rfl lay_5 (by decide) fl5_219 h_a rfl rfl (rc_F F92 (Or.inl (by decide)) (by decide) (rfl)) ?_
            have g98 : ((-2147483648 : Int) ≤ σ69.2.1 51 a ∧ σ69.2.1 51 a ≤ 2147483647) := wf_51 w75 h_a
            refine tn_callSN (M := m_X5_call) (pc := 108) (ix := 129) (M' := m_X11_put) (As := [.ref x79, .int (iI z96), .int (iI (σ69.2.1 51 a))]) (rest := []) dX5_call_108 ok_X11_put stt_X11_put nl5_129 np_X11_put rfl (Nat.le_of_ble_eq_true rfl) (Nat.le_of_ble_eq_true rfl) rfl (k_X11_put (d + 49) (T := T70) (σ := σ87) (x := x79) (i := z96) (y := σ69.2.1 51 a) hk81i (by omega) (by omega) (by omega) w91 (nh_k hk81 (by unfold HT; omega)) (vok_1 (by have q9 := hk81; omega) (by omega))) (fun r99 T101 σ100 gt102 hp => ?_)
            obtain ⟨rfl, rfl, w104, F105⟩ := hp
            clear gt102
            have rp106 : RP σ100 a (kp - 4 * v74) := RP.frc rp93 F105 (by decide) (by decide) (by decide) (by decide) (by decide)
            show Tn _ _ 111 T70 σ100 [(0, .ref a), (1, .int (iI c1)), (2, .int (iI c2)), (3, .int (iI c3)), (4, .int (iI i4)), (5, .int (iI i5))] [] _
            refine tn_iinc (q0 := 4) (L' := [(4, .int (iI (i4 + 1))), (0, .ref a), (1, .int (iI c1)), (2, .int (iI c2)), (3, .int (iI c3)), (5, .int (iI i5))]) dX5_call_111 rfl (by decide) rfl ?_
            obtain ⟨z107, g108, g108e⟩ := wr_ex (i4 + 1)
            rw [g108e]
            have g108r : -2147483648 ≤ z107 ∧ z107 ≤ 2147483647 := g108
            refine tn_aload_n dX5_call_114 rfl 1 rfl ?_
            obtain ⟨x109, hx110, hk111⟩ : ∃ x : Nat, σ69.2.1 33 a = (x : Int) ∧ (T70 x).1 = 39 := wf_33 w75 h_a
            have hk111o : OB T70 x109 9 := ⟨by omega, by rw [hk111]; rfl, by omega⟩
            refine tn_getR (ci := 5) (i := 0) (n := 33) (x := x109) dX5_call_115 rfl lay_5 (by decide) fl5_12 h_a rfl rfl (rc_F F105 (Or.inl (by decide)) (by decide) (rc_F F92 (Or.inl (by decide)) (by decide) (hx110))) ?_
            refine tn_getI (ci := 9) (i := 4) (n := 85) (t := σ69.2.1 85 x109) dX5_call_118 rfl lay_9 (by decide) fl5_71 hk111o rfl rfl (rc_F F105 (Or.inl (by decide)) (by decide) (rc_F F92 (Or.inl (by decide)) (by decide) (rfl))) ?_
            have g113 : ((-2147483648 : Int) ≤ σ69.2.1 85 x109 ∧ σ69.2.1 85 x109 ≤ 2147483647) := wf_85 w75 hk111o
            refine tn_bipush dX5_call_121 (by decide) ?_
            refine tn_icmp_eq (tgt := 129) dX5_call_123 (by decide) ⟨by omega, by omega⟩ ⟨by decide, by decide⟩ (fun h114 => ?_) (fun h114 => ?_)
            · refine tn_aload_n dX5_call_129 rfl 1 rfl ?_
              refine tn_getR (ci := 5) (i := 0) (n := 33) (x := x109) dX5_call_130 rfl lay_5 (by decide) fl5_12 h_a rfl rfl (rc_F F105 (Or.inl (by decide)) (by decide) (rc_F F92 (Or.inl (by decide)) (by decide) (hx110))) ?_
              have q119 : σ100.2.1 84 x109 = σ69.2.1 84 x109 := rc_F F105 (Or.inl (by decide)) (by decide) (rc_F F92 (Or.inl (by decide)) (by decide) (rfl))
              refine tn_callV (M := m_X5_call) (pc := 133) (ix := 93) (ci := 9) (M' := m_X9_next) (As := []) (rest := []) dX5_call_133 ok_X9_next im_X9_next se_X9_next ml5_93 np_X9_next rfl rfl hk111o rfl (Nat.le_of_ble_eq_true rfl) (Nat.le_of_ble_eq_true rfl) rfl (k_X9_next (d + 49) (T := T70) (σ := σ100) (a := x109) hk111o w104 (RP.tk rp106 w104 h_a (rc_F F105 (Or.inl (by decide)) (by decide) (rc_F F92 (Or.inl (by decide)) (by decide) (hx110))))) (fun r115 T117 σ116 gt118 hp => ?_)
              obtain ⟨rfl, rfl, w124, F125, f120, f121, f122⟩ := hp
              clear gt118
              have rp126 : RP σ116 a (kp - 4 * v74 - 4) := RP.next4 rp106 (rc_F F105 (Or.inl (by decide)) (by decide) (rc_F F92 (Or.inl (by decide)) (by decide) (hx110))) F125 (by decide) (by decide) (by decide) f120 f122 (by rw [show σ100.2.1 85 x109 = σ69.2.1 85 x109 from rc_F F105 (Or.inl (by decide)) (by decide) (rc_F F92 (Or.inl (by decide)) (by decide) (rfl))]; omega)
              show Tn _ _ 136 T70 σ116 [(4, .int (iI z107)), (0, .ref a), (1, .int (iI c1)), (2, .int (iI c2)), (3, .int (iI c3)), (5, .int (iI i5))] [] _
              refine tn_iinc (q0 := 5) (L' := [(5, .int (iI (i5 + 1))), (4, .int (iI z107)), (0, .ref a), (1, .int (iI c1)), (2, .int (iI c2)), (3, .int (iI c3))]) dX5_call_136 rfl (by decide) rfl ?_
              refine tn_goto (tgt := 44) dX5_call_139 (by decide) ?_
              exact tn_sub [2, 3, 4, 5, 1, 0] rfl (ih _ (by omega) T70 (z107) (i5 + 1) σ116 (GT.trans hG gt71) w124 (((((FrC.rfl.trans (FrC.sub hF (by decide))).trans (FrC.sub (FrC.old F76 hG) (by decide))).trans (FrC.sub (FrC.old F92 (GT.trans hG gt71)) (by decide))).trans (FrC.sub (FrC.old F105 (GT.trans hG gt71)) (by decide))).trans (FrC.sub (FrC.old F125 (GT.trans hG gt71)) (by decide))) h_a (by omega) (by omega) (RP.up rp126 (by omega)) rfl)
            · exact tn_sub [1, 2, 3, 4, 0, 5] rfl (hx_126 T70 (z107) (i5) σ100 (GT.trans hG gt71) w104 ((((FrC.rfl.trans (FrC.sub hF (by decide))).trans (FrC.sub (FrC.old F76 hG) (by decide))).trans (FrC.sub (FrC.old F92 (GT.trans hG gt71)) (by decide))).trans (FrC.sub (FrC.old F105 (GT.trans hG gt71)) (by decide))) h_a (by omega) (by omega) (RP.up rp106 (by omega)))
          · exact tn_sub [0, 1, 2, 3, 4, 5] rfl (hx_77 T70 (i4) (i5) σ69 (GT.trans hG gt71) w75 ((FrC.rfl.trans (FrC.sub hF (by decide))).trans (FrC.sub (FrC.old F76 hG) (by decide))) h_a (by omega) (by omega) (RP.up f73 (by omega)))
theorem ml5_228 : Cond.methodLink RX5 228 yX5_listCall ∈ pWW := pw3 (List.mem_of_getElem? (i := 190) rfl) rfl
theorem dX5_call_77 : decode cX5_call 77 = .ok (.iconst 0, 1) := by decide +kernel
theorem dX5_call_78 : decode cX5_call 78 = .ok (.ireturn, 1) := by decide +kernel
theorem dX5_call_126 : decode cX5_call 126 = .ok (.goto 16, 3) := by decide +kernel
theorem dX5_call_142 : decode cX5_call 142 = .ok (.aload_n 0, 1) := by decide +kernel
theorem dX5_call_143 : decode cX5_call 143 = .ok (.bipush 41, 2) := by decide +kernel
theorem dX5_call_145 : decode cX5_call 145 = .ok (.invokevirtual 102, 3) := by decide +kernel
theorem dX5_call_148 : decode cX5_call 148 = .ok (.ifCond .eq 12, 3) := by decide +kernel
theorem dX5_call_160 : decode cX5_call 160 = .ok (.iconst 0, 1) := by decide +kernel
theorem dX5_call_161 : decode cX5_call 161 = .ok (.ireturn, 1) := by decide +kernel
theorem dX5_call_151 : decode cX5_call 151 = .ok (.aload_n 0, 1) := by decide +kernel
theorem dX5_call_152 : decode cX5_call 152 = .ok (.bipush 59, 2) := by decide +kernel
theorem dX5_call_154 : decode cX5_call 154 = .ok (.invokevirtual 102, 3) := by decide +kernel
theorem dX5_call_157 : decode cX5_call 157 = .ok (.ifCond .ne 5, 3) := by decide +kernel
theorem dX5_call_162 : decode cX5_call 162 = .ok (.aload_n 0, 1) := by decide +kernel
theorem dX5_call_163 : decode cX5_call 163 = .ok (.iload_n 2, 1) := by decide +kernel
theorem dX5_call_164 : decode cX5_call 164 = .ok (.iload_n 3, 1) := by decide +kernel
theorem dX5_call_165 : decode cX5_call 165 = .ok (.iload 4, 2) := by decide +kernel
theorem dX5_call_167 : decode cX5_call 167 = .ok (.invokevirtual 228, 3) := by decide +kernel
theorem dX5_call_170 : decode cX5_call 170 = .ok (.aload_n 0, 1) := by decide +kernel
theorem dX5_call_171 : decode cX5_call 171 = .ok (.getfield 47, 3) := by decide +kernel
theorem dX5_call_174 : decode cX5_call 174 = .ok (.bipush 10, 2) := by decide +kernel
theorem dX5_call_176 : decode cX5_call 176 = .ok (.iload_n 1, 1) := by decide +kernel
theorem dX5_call_177 : decode cX5_call 177 = .ok (.iload_n 2, 1) := by decide +kernel
theorem dX5_call_178 : decode cX5_call 178 = .ok (.invokevirtual 139, 3) := by decide +kernel
theorem dX5_call_181 : decode cX5_call 181 = .ok (.iconst 0, 1) := by decide +kernel
theorem dX5_call_182 : decode cX5_call 182 = .ok (.istore 5, 2) := by decide +kernel
theorem dX5_call_184 : decode cX5_call 184 = .ok (.iload 5, 2) := by decide +kernel
theorem dX5_call_186 : decode cX5_call 186 = .ok (.iconst 4, 1) := by decide +kernel
theorem dX5_call_187 : decode cX5_call 187 = .ok (.if_icmp .ge 42, 3) := by decide +kernel
theorem dX5_call_190 : decode cX5_call 190 = .ok (.aload_n 0, 1) := by decide +kernel
theorem dX5_call_191 : decode cX5_call 191 = .ok (.getfield 47, 3) := by decide +kernel
theorem dX5_call_194 : decode cX5_call 194 = .ok (.iload 5, 2) := by decide +kernel
theorem dX5_call_196 : decode cX5_call 196 = .ok (.aload_n 0, 1) := by decide +kernel
theorem dX5_call_197 : decode cX5_call 197 = .ok (.getfield 43, 3) := by decide +kernel
theorem dX5_call_200 : decode cX5_call 200 = .ok (.iconst 2, 1) := by decide +kernel
theorem dX5_call_201 : decode cX5_call 201 = .ok (.iload 5, 2) := by decide +kernel
theorem dX5_call_203 : decode cX5_call 203 = .ok (.imul, 1) := by decide +kernel
theorem dX5_call_204 : decode cX5_call 204 = .ok (.invokestatic 231, 3) := by decide +kernel
theorem dX5_call_207 : decode cX5_call 207 = .ok (.aload_n 0, 1) := by decide +kernel
theorem dX5_call_208 : decode cX5_call 208 = .ok (.getfield 43, 3) := by decide +kernel
theorem dX5_call_211 : decode cX5_call 211 = .ok (.iconst 2, 1) := by decide +kernel
theorem dX5_call_212 : decode cX5_call 212 = .ok (.iload 5, 2) := by decide +kernel
theorem dX5_call_214 : decode cX5_call 214 = .ok (.imul, 1) := by decide +kernel
theorem dX5_call_215 : decode cX5_call 215 = .ok (.iconst 1, 1) := by decide +kernel
theorem dX5_call_216 : decode cX5_call 216 = .ok (.iadd, 1) := by decide +kernel
theorem dX5_call_217 : decode cX5_call 217 = .ok (.invokestatic 231, 3) := by decide +kernel
theorem dX5_call_220 : decode cX5_call 220 = .ok (.invokevirtual 143, 3) := by decide +kernel
theorem dX5_call_223 : decode cX5_call 223 = .ok (.iinc 5 1, 3) := by decide +kernel
theorem dX5_call_226 : decode cX5_call 226 = .ok (.goto (-42), 3) := by decide +kernel
set_option maxRecDepth 20000 in
theorem l_X5_call_184 (d : Nat) {T : CT} {σ0 : MS} {a : Nat} {kp : Int} {post : Option Value → CT → MS → Prop} (h_a : OB T a 5) (hw0 : WT T σ0) (hkp : kp ≤ 150) (hx_229 : ∀ (i5 : Int) (σ : MS) , (WT T σ) → (FrC T [] σ0 σ) → (0 ≤ i5 ∧ i5 ≤ 2147483647) → (RP σ a kp) → Tn (d + 51) m_X5_call 229 T σ [(0, .ref a), (5, .int (iI i5))] [] post) : ∀ (n : Nat) (i5 : Int) (σ : MS) , (WT T σ) → (FrC T [] σ0 σ) → (0 ≤ i5 ∧ i5 ≤ 2147483647) → (RP σ a kp) → (2147483700 - i5).toNat = n → Tn (d + 51) m_X5_call 184 T σ [(0, .ref a), (5, .int (iI i5))] [] post := by
  intro n
  induction n using Nat.strongRecOn with
  | _ n ih =>
    intro i5 σ hw hF r_i5 hrp hm
    refine tn_iload dX5_call_184 1 rfl ?_
    refine tn_iconst dX5_call_186 ?_
    refine tn_icmp_ge (tgt := 229) dX5_call_187 (by decide) ⟨by omega, by omega⟩ ⟨by decide, by decide⟩ (fun h1 => ?_) (fun h1 => ?_)
    · exact tn_sub [0, 1] rfl (hx_229 (i5) σ hw (FrC.rfl.trans (FrC.sub hF (by decide))) (by omega) (RP.up hrp (by omega)))
    · refine tn_aload_n dX5_call_190 rfl 0 rfl ?_
      obtain ⟨x2, hx3, hk4⟩ : ∃ x : Nat, σ0.2.1 35 a = (x : Int) ∧ (T x).1 = 31 := wf_35 hw0 h_a
      have hk4o : OB T x2 1 := ⟨by omega, by rw [hk4]; rfl, by omega⟩
      refine tn_getR (ci := 5) (i := 2) (n := 35) (x := x2) dX5_call_191 rfl lay_5 (by decide) fl5_47 h_a rfl rfl (rc_F hF (Or.inl (by decide)) (by decide) (hx3)) ?_
      refine tn_iload dX5_call_194 1 rfl ?_
      refine tn_aload_n dX5_call_196 rfl 0 rfl ?_
      obtain ⟨x6, hx7, hk8, hl9⟩ : ∃ x : Nat, σ0.2.1 49 a = (x : Int) ∧ AR T x 1 8 8 := wf_49 hw0 h_a
      have hk8i : IA T x6 := by unfold IA; omega
      refine tn_getR (ci := 5) (i := 16) (n := 49) (x := x6) dX5_call_197 rfl lay_5 (by decide) fl5_43 h_a rfl rfl (rc_F hF (Or.inl (by decide)) (by decide) (hx7)) ?_
      refine tn_iconst dX5_call_200 ?_
      refine tn_iload dX5_call_201 1 rfl ?_
      refine tn_imul dX5_call_203 ?_
      refine tn_callSN (M := m_X5_call) (pc := 204) (ix := 231) (M' := m_X11_at) (As := [.ref x6, .int (iI (2 * i5))]) (rest := [.int (iI i5), .ref x2]) dX5_call_204 ok_X11_at stt_X11_at nl5_231 np_X11_at rfl (Nat.le_of_ble_eq_true rfl) (Nat.le_of_ble_eq_true rfl) rfl (k_X11_at (d + 49) (T := T) (σ := σ) (x := x6) (i := 2 * i5) hk8i (by omega) (by omega) hw ) (fun r10 T12 σ11 gt13 hp => ?_)
      obtain ⟨v17, rfl, rfl, rfl, f14, f15, f16⟩ := hp
      clear gt13
      clear f15 f16
      show Tn _ _ 207 T σ [(0, .ref a), (5, .int (iI i5))] [.int (iI v17), .int (iI i5), .ref x2] _
      refine tn_aload_n dX5_call_207 rfl 0 rfl ?_
      refine tn_getR (ci := 5) (i := 16) (n := 49) (x := x6) dX5_call_208 rfl lay_5 (by decide) fl5_43 h_a rfl rfl (rc_F hF (Or.inl (by decide)) (by decide) (hx7)) ?_
      refine tn_iconst dX5_call_211 ?_
      refine tn_iload dX5_call_212 1 rfl ?_
      refine tn_imul dX5_call_214 ?_
      refine tn_iconst dX5_call_215 ?_
      refine tn_iadd dX5_call_216 ?_
      refine tn_callSN (M := m_X5_call) (pc := 217) (ix := 231) (M' := m_X11_at) (As := [.ref x6, .int (iI ((2 * i5) + 1))]) (rest := [.int (iI v17), .int (iI i5), .ref x2]) dX5_call_217 ok_X11_at stt_X11_at nl5_231 np_X11_at rfl (Nat.le_of_ble_eq_true rfl) (Nat.le_of_ble_eq_true rfl) rfl (k_X11_at (d + 49) (T := T) (σ := σ) (x := x6) (i := (2 * i5) + 1) hk8i (by omega) (by omega) hw ) (fun r18 T20 σ19 gt21 hp => ?_)
      obtain ⟨v25, rfl, rfl, rfl, f22, f23, f24⟩ := hp
      clear gt21
      clear f23 f24
      show Tn _ _ 220 T σ [(0, .ref a), (5, .int (iI i5))] [.int (iI v25), .int (iI v17), .int (iI i5), .ref x2] _
      refine tn_callV (M := m_X5_call) (pc := 220) (ix := 143) (ci := 1) (M' := m_X1_lastOperand) (As := [.int (iI i5), .int (iI v17), .int (iI v25)]) (rest := []) dX5_call_220 ok_X1_lastOperand im_X1_lastOperand se_X1_lastOperand ml5_143 np_X1_lastOperand rfl rfl hk4o rfl (Nat.le_of_ble_eq_true rfl) (Nat.le_of_ble_eq_true rfl) rfl (k_X1_lastOperand (d + 49) (T := T) (σ := σ) (a := x2) (i := i5) (k := v17) (y := v25) hk4o (by omega) (by omega) (by omega) hw ) (fun r26 T28 σ27 gt29 hp => ?_)
      obtain ⟨rfl, rfl, w31, F32⟩ := hp
      clear gt29
      have rp33 : RP σ27 a (kp) := RP.frc hrp F32 (by decide) (by decide) (by decide) (by decide) (by decide)
      show Tn _ _ 223 T σ27 [(0, .ref a), (5, .int (iI i5))] [] _
      refine tn_iinc (q0 := 1) (L' := [(5, .int (iI (i5 + 1))), (0, .ref a)]) dX5_call_223 rfl (by decide) rfl ?_
      refine tn_goto (tgt := 184) dX5_call_226 (by decide) ?_
      exact tn_sub [1, 0] rfl (ih _ (by omega) (i5 + 1) σ27 w31 ((FrC.rfl.trans (FrC.sub hF (by decide))).trans (FrC.sub F32 (by decide))) (by omega) (RP.up rp33 (by omega)) rfl)
theorem dX5_call_229 : decode cX5_call 229 = .ok (.iconst 1, 1) := by decide +kernel
theorem dX5_call_230 : decode cX5_call 230 = .ok (.ireturn, 1) := by decide +kernel
set_option maxRecDepth 20000 in
theorem k_X5_call (d : Nat) {T : CT} {σ : MS} {a : Nat} {r : Int} {kp : Int} (ha : OB T a 5) (h_r : -2147483648 ≤ r ∧ r ≤ 2147483647) (hw : WT T σ) (hkp : kp ≤ 150) (hrp : RP σ a kp) : Tn (d + 51) m_X5_call 0 T σ [(0, .ref a), (1, .int (iI r))] [] (fun ro T2 σ2 => ∃ v : Int, ro = some (.int (iI v)) ∧ WT T2 σ2 ∧ FrC T [5, 6, 7, 42, 43, 44, 47, 50, 51, 84, 85, 86, 87, 518, 519, 520, 521] σ σ2 ∧ (v = 0 ∨ v = 1) ∧ (RP σ2 a (kp - 7 * v))) := by
  refine tn_aload_n dX5_call_0 rfl 0 rfl ?_
  obtain ⟨x1, hx2, hk3⟩ : ∃ x : Nat, σ.2.1 33 a = (x : Int) ∧ (T x).1 = 39 := wf_33 hw ha
  have hk3o : OB T x1 9 := ⟨by omega, by rw [hk3]; rfl, by omega⟩
  refine tn_getR (ci := 5) (i := 0) (n := 33) (x := x1) dX5_call_1 rfl lay_5 (by decide) fl5_12 ha rfl rfl (hx2) ?_
  refine tn_getI (ci := 9) (i := 5) (n := 86) (t := σ.2.1 86 x1) dX5_call_4 rfl lay_9 (by decide) fl5_96 hk3o rfl rfl (rfl) ?_
  have g5 : ((-2147483648 : Int) ≤ σ.2.1 86 x1 ∧ σ.2.1 86 x1 ≤ 2147483647) := wf_86 hw hk3o
  refine tn_istore_n (L' := [(2, .int (iI (σ.2.1 86 x1))), (0, .ref a), (1, .int (iI r))]) dX5_call_7 rfl (by decide) rfl ?_
  refine tn_aload_n dX5_call_8 rfl 1 rfl ?_
  refine tn_getR (ci := 5) (i := 0) (n := 33) (x := x1) dX5_call_9 rfl lay_5 (by decide) fl5_12 ha rfl rfl (hx2) ?_
  refine tn_getI (ci := 9) (i := 6) (n := 87) (t := σ.2.1 87 x1) dX5_call_12 rfl lay_9 (by decide) fl5_74 hk3o rfl rfl (rfl) ?_
  have g6 : ((-2147483648 : Int) ≤ σ.2.1 87 x1 ∧ σ.2.1 87 x1 ≤ 2147483647) := wf_87 hw hk3o
  refine tn_istore_n (L' := [(3, .int (iI (σ.2.1 87 x1))), (2, .int (iI (σ.2.1 86 x1))), (0, .ref a), (1, .int (iI r))]) dX5_call_15 rfl (by decide) rfl ?_
  refine tn_aload_n dX5_call_16 rfl 2 rfl ?_
  refine tn_getR (ci := 5) (i := 0) (n := 33) (x := x1) dX5_call_17 rfl lay_5 (by decide) fl5_12 ha rfl rfl (hx2) ?_
  refine tn_callV (M := m_X5_call) (pc := 20) (ix := 93) (ci := 9) (M' := m_X9_next) (As := []) (rest := []) dX5_call_20 ok_X9_next im_X9_next se_X9_next ml5_93 np_X9_next rfl rfl hk3o rfl (Nat.le_of_ble_eq_true rfl) (Nat.le_of_ble_eq_true rfl) rfl (k_X9_next (d + 49) (T := T) (σ := σ) (a := x1) hk3o hw (RP.tk hrp hw ha (hx2))) (fun r7 T9 σ8 gt10 hp => ?_)
  obtain ⟨rfl, rfl, w15, F16, f11, f12, f13⟩ := hp
  clear gt10
  have rp17 : RP σ8 a (kp) := RP.next hrp (hx2) F16 (by decide) (by decide) (by decide) f11 f12
  show Tn _ _ 23 T σ8 [(3, .int (iI (σ.2.1 87 x1))), (2, .int (iI (σ.2.1 86 x1))), (0, .ref a), (1, .int (iI r))] [] _
  refine tn_aload_n dX5_call_23 rfl 2 rfl ?_
  refine tn_getR (ci := 5) (i := 0) (n := 33) (x := x1) dX5_call_24 rfl lay_5 (by decide) fl5_12 ha rfl rfl (rc_F F16 (Or.inl (by decide)) (by decide) (hx2)) ?_
  refine tn_callV (M := m_X5_call) (pc := 27) (ix := 93) (ci := 9) (M' := m_X9_next) (As := []) (rest := []) dX5_call_27 ok_X9_next im_X9_next se_X9_next ml5_93 np_X9_next rfl rfl hk3o rfl (Nat.le_of_ble_eq_true rfl) (Nat.le_of_ble_eq_true rfl) rfl (k_X9_next (d + 49) (T := T) (σ := σ8) (a := x1) hk3o w15 (RP.tk rp17 w15 ha (rc_F F16 (Or.inl (by decide)) (by decide) (hx2)))) (fun r18 T20 σ19 gt21 hp => ?_)
  obtain ⟨rfl, rfl, w26, F27, f22, f23, f24⟩ := hp
  clear gt21
  have rp28 : RP σ19 a (kp) := RP.next rp17 (rc_F F16 (Or.inl (by decide)) (by decide) (hx2)) F27 (by decide) (by decide) (by decide) f22 f23
  show Tn _ _ 30 T σ19 [(3, .int (iI (σ.2.1 87 x1))), (2, .int (iI (σ.2.1 86 x1))), (0, .ref a), (1, .int (iI r))] [] _
  refine tn_iconst dX5_call_30 ?_
  refine tn_istore (L' := [(4, .int (iI 0)), (3, .int (iI (σ.2.1 87 x1))), (2, .int (iI (σ.2.1 86 x1))), (0, .ref a), (1, .int (iI r))]) dX5_call_31 (by decide) rfl ?_
  refine tn_aload_n dX5_call_33 rfl 3 rfl ?_
  obtain ⟨x29, hx30, hk31, hl32⟩ : ∃ x : Nat, σ.2.1 49 a = (x : Int) ∧ AR T x 1 8 8 := wf_49 hw ha
  have hk31i : IA T x29 := by unfold IA; omega
  refine tn_getR (ci := 5) (i := 16) (n := 49) (x := x29) dX5_call_34 rfl lay_5 (by decide) fl5_43 ha rfl rfl (rc_F F27 (Or.inl (by decide)) (by decide) (rc_F F16 (Or.inl (by decide)) (by decide) (hx30))) ?_
  refine tn_iconst dX5_call_37 ?_
  refine tn_callS (M := m_X5_call) (pc := 38) (ix := 222) (M' := m_J7_fill_53178) (As := [.ref x29, .int (iI 0)]) (rest := []) dX5_call_38 ok_J7_fill_53178 stt_J7_fill_53178 ml5_222 np_J7_fill_53178 rfl (Nat.le_of_ble_eq_true rfl) (Nat.le_of_ble_eq_true rfl) rfl (k_J7_fill_53178 (d + 49) (T := T) (σ := σ19) (x := x29) (y := 0) hk31i (by omega) (by decide) w26 (nh_k hk31 (by unfold HT; omega)) (by omega)) (fun r33 T35 σ34 gt36 hp => ?_)
  obtain ⟨rfl, rfl, w38, F39⟩ := hp
  clear gt36
  have rp40 : RP σ34 a (kp) := RP.frc rp28 F39 (by decide) (by decide) (by decide) (by decide) (by decide)
  show Tn _ _ 41 T σ34 [(4, .int (iI 0)), (3, .int (iI (σ.2.1 87 x1))), (2, .int (iI (σ.2.1 86 x1))), (0, .ref a), (1, .int (iI r))] [] _
  refine tn_iconst dX5_call_41 ?_
  refine tn_istore (L' := [(5, .int (iI 0)), (4, .int (iI 0)), (3, .int (iI (σ.2.1 87 x1))), (2, .int (iI (σ.2.1 86 x1))), (0, .ref a), (1, .int (iI r))]) dX5_call_42 (by decide) rfl ?_
  refine tn_sub [4, 5, 3, 2, 1, 0] rfl (l_X5_call_44 (d) (σ0 := σ34) (T0 := T) (a := a) (c1 := r) (c2 := σ.2.1 86 x1) (c3 := σ.2.1 87 x1) (kp := kp) (by omega) (by omega) (by omega) w38 (by omega) (fun T44 i441 i542 σ43 gt45 w46 F47 q48 r49 r50 f51 => ?_) (fun T55 i452 i553 σ54 gt56 w57 F58 q59 r60 r61 f62 => ?_) (fun T66 i463 i564 σ65 gt67 w68 F69 q70 r71 r72 f73 => ?_) _ T (0) (0) σ34 GT.rfl w38 FrC.rfl ha (by omega) (by omega) rp40 rfl)
  · show Tn _ _ 77 T44 σ43 [(0, .ref a), (1, .int (iI r)), (2, .int (iI (σ.2.1 86 x1))), (3, .int (iI (σ.2.1 87 x1))), (4, .int (iI i441)), (5, .int (iI i542))] [] _
    refine tn_iconst dX5_call_77 ?_
    exact tn_zret (v := 0) rfl (by decide) dX5_call_78 ⟨_, rfl, w46, ((((FrC.rfl.trans (FrC.sub F16 (by decide))).trans (FrC.sub F27 (by decide))).trans (FrC.sub F39 (by decide))).trans (FrC.sub F47 (by decide))), by omega, (RP.up f51 (by omega))⟩
  · show Tn _ _ 126 T55 σ54 [(0, .ref a), (1, .int (iI r)), (2, .int (iI (σ.2.1 86 x1))), (3, .int (iI (σ.2.1 87 x1))), (4, .int (iI i452)), (5, .int (iI i553))] [] _
    refine tn_goto (tgt := 142) dX5_call_126 (by decide) ?_
    refine tn_aload_n dX5_call_142 rfl 0 rfl ?_
    refine tn_bipush dX5_call_143 (by decide) ?_
    refine tn_callV (M := m_X5_call) (pc := 145) (ix := 102) (ci := 5) (M' := m_X5_taken) (As := [.int (iI 41)]) (rest := []) dX5_call_145 ok_X5_taken im_X5_taken se_X5_taken ml5_102 np_X5_taken rfl rfl q59 rfl (Nat.le_of_ble_eq_true rfl) (Nat.le_of_ble_eq_true rfl) rfl (k_X5_taken (d + 48) (T := T55) (σ := σ54) (a := a) (s := 41) (kp := kp) q59 (by decide) w57 (by omega) (by omega) f62) (fun r74 T76 σ75 gt77 hp => ?_)
    obtain ⟨v80, rfl, rfl, w81, F82, f78, f79⟩ := hp
    clear gt77
    show Tn _ _ 148 T55 σ75 [(0, .ref a), (1, .int (iI r)), (2, .int (iI (σ.2.1 86 x1))), (3, .int (iI (σ.2.1 87 x1))), (4, .int (iI i452)), (5, .int (iI i553))] [.int (iI v80)] _
    refine tn_if_eq (tgt := 160) dX5_call_148 (by decide) ⟨by omega, by omega⟩ (fun h84 => ?_) (fun h84 => ?_)
    · refine tn_iconst dX5_call_160 ?_
      exact tn_zret (v := 0) rfl (by decide) dX5_call_161 ⟨_, rfl, w81, (((((FrC.rfl.trans (FrC.sub F16 (by decide))).trans (FrC.sub F27 (by decide))).trans (FrC.sub F39 (by decide))).trans (FrC.sub F58 (by decide))).trans (FrC.sub (FrC.old F82 gt56) (by decide))), by omega, (RP.up f79 (by omega))⟩
    · refine tn_aload_n dX5_call_151 rfl 0 rfl ?_
      refine tn_bipush dX5_call_152 (by decide) ?_
      refine tn_callV (M := m_X5_call) (pc := 154) (ix := 102) (ci := 5) (M' := m_X5_taken) (As := [.int (iI 59)]) (rest := []) dX5_call_154 ok_X5_taken im_X5_taken se_X5_taken ml5_102 np_X5_taken rfl rfl q59 rfl (Nat.le_of_ble_eq_true rfl) (Nat.le_of_ble_eq_true rfl) rfl (k_X5_taken (d + 48) (T := T55) (σ := σ75) (a := a) (s := 59) (kp := kp - 4 * v80) q59 (by decide) w81 (by omega) (by omega) f79) (fun r85 T87 σ86 gt88 hp => ?_)
      obtain ⟨v91, rfl, rfl, w92, F93, f89, f90⟩ := hp
      clear gt88
      show Tn _ _ 157 T55 σ86 [(0, .ref a), (1, .int (iI r)), (2, .int (iI (σ.2.1 86 x1))), (3, .int (iI (σ.2.1 87 x1))), (4, .int (iI i452)), (5, .int (iI i553))] [.int (iI v91)] _
      refine tn_if_ne (tgt := 162) dX5_call_157 (by decide) ⟨by omega, by omega⟩ (fun h95 => ?_) (fun h95 => ?_)
      · refine tn_aload_n dX5_call_162 rfl 0 rfl ?_
        refine tn_iload_n dX5_call_163 rfl 2 rfl ?_
        refine tn_iload_n dX5_call_164 rfl 3 rfl ?_
        refine tn_iload dX5_call_165 4 rfl ?_
        refine tn_callV (M := m_X5_call) (pc := 167) (ix := 228) (ci := 5) (M' := m_X5_listCall) (As := [.int (iI (σ.2.1 86 x1)), .int (iI (σ.2.1 87 x1)), .int (iI i452)]) (rest := []) dX5_call_167 ok_X5_listCall im_X5_listCall se_X5_listCall ml5_228 np_X5_listCall rfl rfl q59 rfl (Nat.le_of_ble_eq_true rfl) (Nat.le_of_ble_eq_true rfl) rfl (k_X5_listCall (d + 48) (T := T55) (σ := σ86) (a := a) (p1 := σ.2.1 86 x1) (p2 := σ.2.1 87 x1) (p3 := i452) q59 (by omega) (by omega) (by omega) w92 ) (fun r96 T98 σ97 gt99 hp => ?_)
        obtain ⟨rfl, rfl, w101, F102⟩ := hp
        clear gt99
        have rp103 : RP σ97 a (kp - 4 * v80 - 4 * v91) := RP.frc f90 F102 (by decide) (by decide) (by decide) (by decide) (by decide)
        show Tn _ _ 170 T55 σ97 [(0, .ref a), (1, .int (iI r)), (2, .int (iI (σ.2.1 86 x1))), (3, .int (iI (σ.2.1 87 x1))), (4, .int (iI i452)), (5, .int (iI i553))] [] _
        refine tn_aload_n dX5_call_170 rfl 0 rfl ?_
        obtain ⟨x104, hx105, hk106⟩ : ∃ x : Nat, σ54.2.1 35 a = (x : Int) ∧ (T55 x).1 = 31 := wf_35 w57 q59
        have hk106o : OB T55 x104 1 := ⟨by omega, by rw [hk106]; rfl, by omega⟩
        refine tn_getR (ci := 5) (i := 2) (n := 35) (x := x104) dX5_call_171 rfl lay_5 (by decide) fl5_47 q59 rfl rfl (rc_F F102 (Or.inl (by decide)) (by decide) (rc_F F93 (Or.inl (by decide)) (by decide) (rc_F F82 (Or.inl (by decide)) (by decide) (hx105)))) ?_
        refine tn_bipush dX5_call_174 (by decide) ?_
        refine tn_iload_n dX5_call_176 rfl 1 rfl ?_
        refine tn_iload_n dX5_call_177 rfl 2 rfl ?_
        have q112 : σ97.2.1 6 x104 = σ54.2.1 6 x104 := rc_F F102 (Or.inl (by decide)) (by decide) (rc_F F93 (Or.inl (by decide)) (by decide) (rc_F F82 (Or.inl (by decide)) (by decide) (rfl)))
        refine tn_callV (M := m_X5_call) (pc := 178) (ix := 139) (ci := 1) (M' := m_X1_append) (As := [.int (iI 10), .int (iI r), .int (iI (σ.2.1 86 x1))]) (rest := []) dX5_call_178 ok_X1_append im_X1_append se_X1_append ml5_139 np_X1_append rfl rfl hk106o rfl (Nat.le_of_ble_eq_true rfl) (Nat.le_of_ble_eq_true rfl) rfl (k_X1_append (d + 47) (T := T55) (σ := σ97) (a := x104) (k := 10) (x := r) (y := σ.2.1 86 x1) hk106o hk106 (by decide) (by omega) (by omega) w101 (RP.cnt rp103 w101 q59 (rc_F F102 (Or.inl (by decide)) (by decide) (rc_F F93 (Or.inl (by decide)) (by decide) (rc_F F82 (Or.inl (by decide)) (by decide) (hx105)))) (by omega)) (by omega)) (fun r108 T110 σ109 gt111 hp => ?_)
        obtain ⟨rfl, w115, F116, f113⟩ := hp
        replace q59 : OB T110 a 5 := gt111.ob q59
        have rp117 : RP σ109 a (kp - 4 * v80 - 4 * v91 + 1) := RP.app rp103 (rc_F F102 (Or.inl (by decide)) (by decide) (rc_F F93 (Or.inl (by decide)) (by decide) (rc_F F82 (Or.inl (by decide)) (by decide) (hx105)))) F116 (by decide) (by decide) (by decide) (by decide) f113
        show Tn _ _ 181 T110 σ109 [(0, .ref a), (1, .int (iI r)), (2, .int (iI (σ.2.1 86 x1))), (3, .int (iI (σ.2.1 87 x1))), (4, .int (iI i452)), (5, .int (iI i553))] [] _
        refine tn_iconst dX5_call_181 ?_
        refine tn_istore (L' := [(5, .int (iI 0)), (0, .ref a), (1, .int (iI r)), (2, .int (iI (σ.2.1 86 x1))), (3, .int (iI (σ.2.1 87 x1))), (4, .int (iI i452))]) dX5_call_182 (by decide) rfl ?_
        refine tn_sub [1, 0] rfl (l_X5_call_184 (d) (T := T110) (σ0 := σ109) (a := a) (kp := kp - 4 * v80 - 4 * v91 + 1) q59 w115 (by omega) (fun i5118 σ119 w122 F123 r124 f125 => ?_) _ (0) σ109 w115 FrC.rfl (by omega) rp117 rfl)
        show Tn _ _ 229 T110 σ119 [(0, .ref a), (5, .int (iI i5118))] [] _
        refine tn_iconst dX5_call_229 ?_
        exact tn_zret (v := 1) rfl (by decide) dX5_call_230 ⟨_, rfl, w122, (((((((((FrC.rfl.trans (FrC.sub F16 (by decide))).trans (FrC.sub F27 (by decide))).trans (FrC.sub F39 (by decide))).trans (FrC.sub F58 (by decide))).trans (FrC.sub (FrC.old F82 gt56) (by decide))).trans (FrC.sub (FrC.old F93 gt56) (by decide))).trans (FrC.sub (FrC.old F102 gt56) (by decide))).trans (FrC.sub (FrC.old F116 gt56) (by decide))).trans (FrC.sub (FrC.old F123 (GT.trans gt56 gt111)) (by decide))), by omega, (RP.up f125 (by omega))⟩
      · refine tn_iconst dX5_call_160 ?_
        exact tn_zret (v := 0) rfl (by decide) dX5_call_161 ⟨_, rfl, w92, ((((((FrC.rfl.trans (FrC.sub F16 (by decide))).trans (FrC.sub F27 (by decide))).trans (FrC.sub F39 (by decide))).trans (FrC.sub F58 (by decide))).trans (FrC.sub (FrC.old F82 gt56) (by decide))).trans (FrC.sub (FrC.old F93 gt56) (by decide))), by omega, (RP.up f90 (by omega))⟩
  · show Tn _ _ 142 T66 σ65 [(0, .ref a), (1, .int (iI r)), (2, .int (iI (σ.2.1 86 x1))), (3, .int (iI (σ.2.1 87 x1))), (4, .int (iI i463)), (5, .int (iI i564))] [] _
    refine tn_aload_n dX5_call_142 rfl 0 rfl ?_
    refine tn_bipush dX5_call_143 (by decide) ?_
    refine tn_callV (M := m_X5_call) (pc := 145) (ix := 102) (ci := 5) (M' := m_X5_taken) (As := [.int (iI 41)]) (rest := []) dX5_call_145 ok_X5_taken im_X5_taken se_X5_taken ml5_102 np_X5_taken rfl rfl q70 rfl (Nat.le_of_ble_eq_true rfl) (Nat.le_of_ble_eq_true rfl) rfl (k_X5_taken (d + 48) (T := T66) (σ := σ65) (a := a) (s := 41) (kp := kp) q70 (by decide) w68 (by omega) (by omega) f73) (fun r126 T128 σ127 gt129 hp => ?_)
    obtain ⟨v132, rfl, rfl, w133, F134, f130, f131⟩ := hp
    clear gt129
    show Tn _ _ 148 T66 σ127 [(0, .ref a), (1, .int (iI r)), (2, .int (iI (σ.2.1 86 x1))), (3, .int (iI (σ.2.1 87 x1))), (4, .int (iI i463)), (5, .int (iI i564))] [.int (iI v132)] _
    refine tn_if_eq (tgt := 160) dX5_call_148 (by decide) ⟨by omega, by omega⟩ (fun h136 => ?_) (fun h136 => ?_)
    · refine tn_iconst dX5_call_160 ?_
      exact tn_zret (v := 0) rfl (by decide) dX5_call_161 ⟨_, rfl, w133, (((((FrC.rfl.trans (FrC.sub F16 (by decide))).trans (FrC.sub F27 (by decide))).trans (FrC.sub F39 (by decide))).trans (FrC.sub F69 (by decide))).trans (FrC.sub (FrC.old F134 gt67) (by decide))), by omega, (RP.up f131 (by omega))⟩
    · refine tn_aload_n dX5_call_151 rfl 0 rfl ?_
      refine tn_bipush dX5_call_152 (by decide) ?_
      refine tn_callV (M := m_X5_call) (pc := 154) (ix := 102) (ci := 5) (M' := m_X5_taken) (As := [.int (iI 59)]) (rest := []) dX5_call_154 ok_X5_taken im_X5_taken se_X5_taken ml5_102 np_X5_taken rfl rfl q70 rfl (Nat.le_of_ble_eq_true rfl) (Nat.le_of_ble_eq_true rfl) rfl (k_X5_taken (d + 48) (T := T66) (σ := σ127) (a := a) (s := 59) (kp := kp - 4 * v132) q70 (by decide) w133 (by omega) (by omega) f131) (fun r137 T139 σ138 gt140 hp => ?_)
      obtain ⟨v143, rfl, rfl, w144, F145, f141, f142⟩ := hp
      clear gt140
      show Tn _ _ 157 T66 σ138 [(0, .ref a), (1, .int (iI r)), (2, .int (iI (σ.2.1 86 x1))), (3, .int (iI (σ.2.1 87 x1))), (4, .int (iI i463)), (5, .int (iI i564))] [.int (iI v143)] _
      refine tn_if_ne (tgt := 162) dX5_call_157 (by decide) ⟨by omega, by omega⟩ (fun h147 => ?_) (fun h147 => ?_)
      · refine tn_aload_n dX5_call_162 rfl 0 rfl ?_
        refine tn_iload_n dX5_call_163 rfl 2 rfl ?_
        refine tn_iload_n dX5_call_164 rfl 3 rfl ?_
        refine tn_iload dX5_call_165 4 rfl ?_
        refine tn_callV (M := m_X5_call) (pc := 167) (ix := 228) (ci := 5) (M' := m_X5_listCall) (As := [.int (iI (σ.2.1 86 x1)), .int (iI (σ.2.1 87 x1)), .int (iI i463)]) (rest := []) dX5_call_167 ok_X5_listCall im_X5_listCall se_X5_listCall ml5_228 np_X5_listCall rfl rfl q70 rfl (Nat.le_of_ble_eq_true rfl) (Nat.le_of_ble_eq_true rfl) rfl (k_X5_listCall (d + 48) (T := T66) (σ := σ138) (a := a) (p1 := σ.2.1 86 x1) (p2 := σ.2.1 87 x1) (p3 := i463) q70 (by omega) (by omega) (by omega) w144 ) (fun r148 T150 σ149 gt151 hp => ?_)
        obtain ⟨rfl, rfl, w153, F154⟩ := hp
        clear gt151
        have rp155 : RP σ149 a (kp - 4 * v132 - 4 * v143) := RP.frc f142 F154 (by decide) (by decide) (by decide) (by decide) (by decide)
        show Tn _ _ 170 T66 σ149 [(0, .ref a), (1, .int (iI r)), (2, .int (iI (σ.2.1 86 x1))), (3, .int (iI (σ.2.1 87 x1))), (4, .int (iI i463)), (5, .int (iI i564))] [] _
        refine tn_aload_n dX5_call_170 rfl 0 rfl ?_
        obtain ⟨x156, hx157, hk158⟩ : ∃ x : Nat, σ65.2.1 35 a = (x : Int) ∧ (T66 x).1 = 31 := wf_35 w68 q70
        have hk158o : OB T66 x156 1 := ⟨by omega, by rw [hk158]; rfl, by omega⟩
        refine tn_getR (ci := 5) (i := 2) (n := 35) (x := x156) dX5_call_171 rfl lay_5 (by decide) fl5_47 q70 rfl rfl (rc_F F154 (Or.inl (by decide)) (by decide) (rc_F F145 (Or.inl (by decide)) (by decide) (rc_F F134 (Or.inl (by decide)) (by decide) (hx157)))) ?_
        refine tn_bipush dX5_call_174 (by decide) ?_
        refine tn_iload_n dX5_call_176 rfl 1 rfl ?_
        refine tn_iload_n dX5_call_177 rfl 2 rfl ?_
        have q164 : σ149.2.1 6 x156 = σ65.2.1 6 x156 := rc_F F154 (Or.inl (by decide)) (by decide) (rc_F F145 (Or.inl (by decide)) (by decide) (rc_F F134 (Or.inl (by decide)) (by decide) (rfl)))
        refine tn_callV (M := m_X5_call) (pc := 178) (ix := 139) (ci := 1) (M' := m_X1_append) (As := [.int (iI 10), .int (iI r), .int (iI (σ.2.1 86 x1))]) (rest := []) dX5_call_178 ok_X1_append im_X1_append se_X1_append ml5_139 np_X1_append rfl rfl hk158o rfl (Nat.le_of_ble_eq_true rfl) (Nat.le_of_ble_eq_true rfl) rfl (k_X1_append (d + 47) (T := T66) (σ := σ149) (a := x156) (k := 10) (x := r) (y := σ.2.1 86 x1) hk158o hk158 (by decide) (by omega) (by omega) w153 (RP.cnt rp155 w153 q70 (rc_F F154 (Or.inl (by decide)) (by decide) (rc_F F145 (Or.inl (by decide)) (by decide) (rc_F F134 (Or.inl (by decide)) (by decide) (hx157)))) (by omega)) (by omega)) (fun r160 T162 σ161 gt163 hp => ?_)
        obtain ⟨rfl, w167, F168, f165⟩ := hp
        replace q70 : OB T162 a 5 := gt163.ob q70
        have rp169 : RP σ161 a (kp - 4 * v132 - 4 * v143 + 1) := RP.app rp155 (rc_F F154 (Or.inl (by decide)) (by decide) (rc_F F145 (Or.inl (by decide)) (by decide) (rc_F F134 (Or.inl (by decide)) (by decide) (hx157)))) F168 (by decide) (by decide) (by decide) (by decide) f165
        show Tn _ _ 181 T162 σ161 [(0, .ref a), (1, .int (iI r)), (2, .int (iI (σ.2.1 86 x1))), (3, .int (iI (σ.2.1 87 x1))), (4, .int (iI i463)), (5, .int (iI i564))] [] _
        refine tn_iconst dX5_call_181 ?_
        refine tn_istore (L' := [(5, .int (iI 0)), (0, .ref a), (1, .int (iI r)), (2, .int (iI (σ.2.1 86 x1))), (3, .int (iI (σ.2.1 87 x1))), (4, .int (iI i463))]) dX5_call_182 (by decide) rfl ?_
        refine tn_sub [1, 0] rfl (l_X5_call_184 (d) (T := T162) (σ0 := σ161) (a := a) (kp := kp - 4 * v132 - 4 * v143 + 1) q70 w167 (by omega) (fun i5170 σ171 w174 F175 r176 f177 => ?_) _ (0) σ161 w167 FrC.rfl (by omega) rp169 rfl)
        show Tn _ _ 229 T162 σ171 [(0, .ref a), (5, .int (iI i5170))] [] _
        refine tn_iconst dX5_call_229 ?_
        exact tn_zret (v := 1) rfl (by decide) dX5_call_230 ⟨_, rfl, w174, (((((((((FrC.rfl.trans (FrC.sub F16 (by decide))).trans (FrC.sub F27 (by decide))).trans (FrC.sub F39 (by decide))).trans (FrC.sub F69 (by decide))).trans (FrC.sub (FrC.old F134 gt67) (by decide))).trans (FrC.sub (FrC.old F145 gt67) (by decide))).trans (FrC.sub (FrC.old F154 gt67) (by decide))).trans (FrC.sub (FrC.old F168 gt67) (by decide))).trans (FrC.sub (FrC.old F175 (GT.trans gt67 gt163)) (by decide))), by omega, (RP.up f177 (by omega))⟩
      · refine tn_iconst dX5_call_160 ?_
        exact tn_zret (v := 0) rfl (by decide) dX5_call_161 ⟨_, rfl, w144, ((((((FrC.rfl.trans (FrC.sub F16 (by decide))).trans (FrC.sub F27 (by decide))).trans (FrC.sub F39 (by decide))).trans (FrC.sub F69 (by decide))).trans (FrC.sub (FrC.old F134 gt67) (by decide))).trans (FrC.sub (FrC.old F145 gt67) (by decide))), by omega, (RP.up f142 (by omega))⟩
