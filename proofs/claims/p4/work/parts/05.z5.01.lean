theorem cd_X10_refresh : Cond.code yX10_refresh cX10_refresh 6 none ∈ pWW := pw4 (List.mem_of_getElem? (i := 108) rfl) rfl
abbrev m_X10_refresh : MT := (yX10_refresh, cX10_refresh, 6, none)
theorem ok_X10_refresh : pOk m_X10_refresh := ⟨⟨cd_X10_refresh, ini_10⟩, by decide +kernel, ⟨by decide +kernel, by decide +kernel⟩, Nat.le_of_ble_eq_true rfl⟩
theorem np_X10_refresh : (parseMethodDescriptor yX10_refresh.desc).map (fun d => d.parameters.length) = some 2 := by decide +kernel
theorem im_X10_refresh : Cond.instanceMethod yX10_refresh ∈ pWW := pw4 (List.mem_of_getElem? (i := 106) rfl) rfl
theorem se_X10_refresh : Cond.selects RX10 yX10_refresh yX10_refresh ∈ pWW := pw4 (List.mem_of_getElem? (i := 107) rfl) rfl
theorem mlm10_56 : Cond.methodLink RX10 56 Lib.Math.max.name ∈ pWW := pw4 (List.mem_of_getElem? (i := 113) rfl) rfl
theorem ml10_64 : Cond.methodLink RX10 64 yJ7_fill_fda19 ∈ pWW := pw4 (List.mem_of_getElem? (i := 114) rfl) rfl
theorem ml10_70 : Cond.methodLink RX10 70 yX10_nameBind ∈ pWW := pw4 (List.mem_of_getElem? (i := 115) rfl) rfl
theorem dX10_refresh_0 : decode cX10_refresh 0 = .ok (.aload_n 2, 1) := by decide +kernel
theorem dX10_refresh_1 : decode cX10_refresh 1 = .ok (.ifnull 34, 3) := by decide +kernel
theorem dX10_refresh_4 : decode cX10_refresh 4 = .ok (.iload_n 1, 1) := by decide +kernel
theorem dX10_refresh_5 : decode cX10_refresh 5 = .ok (.ifCond .lt 30, 3) := by decide +kernel
theorem dX10_refresh_35 : decode cX10_refresh 35 = .ok (.return_, 1) := by decide +kernel
theorem dX10_refresh_8 : decode cX10_refresh 8 = .ok (.iload_n 1, 1) := by decide +kernel
theorem dX10_refresh_9 : decode cX10_refresh 9 = .ok (.aload_n 0, 1) := by decide +kernel
theorem dX10_refresh_10 : decode cX10_refresh 10 = .ok (.getfield 11, 3) := by decide +kernel
theorem dX10_refresh_13 : decode cX10_refresh 13 = .ok (.arraylength, 1) := by decide +kernel
theorem dX10_refresh_14 : decode cX10_refresh 14 = .ok (.if_icmp .ge 21, 3) := by decide +kernel
theorem dX10_refresh_17 : decode cX10_refresh 17 = .ok (.iload_n 1, 1) := by decide +kernel
theorem dX10_refresh_18 : decode cX10_refresh 18 = .ok (.aload_n 0, 1) := by decide +kernel
theorem dX10_refresh_19 : decode cX10_refresh 19 = .ok (.getfield 17, 3) := by decide +kernel
theorem dX10_refresh_22 : decode cX10_refresh 22 = .ok (.arraylength, 1) := by decide +kernel
theorem dX10_refresh_23 : decode cX10_refresh 23 = .ok (.if_icmp .ge 12, 3) := by decide +kernel
theorem dX10_refresh_26 : decode cX10_refresh 26 = .ok (.aload_n 0, 1) := by decide +kernel
theorem dX10_refresh_27 : decode cX10_refresh 27 = .ok (.getfield 17, 3) := by decide +kernel
theorem dX10_refresh_30 : decode cX10_refresh 30 = .ok (.iload_n 1, 1) := by decide +kernel
theorem dX10_refresh_31 : decode cX10_refresh 31 = .ok (.iaload, 1) := by decide +kernel
theorem dX10_refresh_32 : decode cX10_refresh 32 = .ok (.ifCond .eq 4, 3) := by decide +kernel
theorem dX10_refresh_36 : decode cX10_refresh 36 = .ok (.aload_n 0, 1) := by decide +kernel
theorem dX10_refresh_37 : decode cX10_refresh 37 = .ok (.aload_n 2, 1) := by decide +kernel
theorem dX10_refresh_38 : decode cX10_refresh 38 = .ok (.aload_n 2, 1) := by decide +kernel
theorem dX10_refresh_39 : decode cX10_refresh 39 = .ok (.getfield 30, 3) := by decide +kernel
theorem dX10_refresh_42 : decode cX10_refresh 42 = .ok (.iconst 0, 1) := by decide +kernel
theorem dX10_refresh_43 : decode cX10_refresh 43 = .ok (.invokevirtual 36, 3) := by decide +kernel
theorem dX10_refresh_46 : decode cX10_refresh 46 = .ok (.putfield 50, 3) := by decide +kernel
theorem dX10_refresh_49 : decode cX10_refresh 49 = .ok (.iconst 0, 1) := by decide +kernel
theorem dX10_refresh_50 : decode cX10_refresh 50 = .ok (.aload_n 2, 1) := by decide +kernel
theorem dX10_refresh_51 : decode cX10_refresh 51 = .ok (.getfield 53, 3) := by decide +kernel
theorem dX10_refresh_54 : decode cX10_refresh 54 = .ok (.iconst 1, 1) := by decide +kernel
theorem dX10_refresh_55 : decode cX10_refresh 55 = .ok (.iadd, 1) := by decide +kernel
theorem dX10_refresh_56 : decode cX10_refresh 56 = .ok (.aload_n 0, 1) := by decide +kernel
theorem dX10_refresh_57 : decode cX10_refresh 57 = .ok (.getfield 50, 3) := by decide +kernel
theorem dX10_refresh_60 : decode cX10_refresh 60 = .ok (.imul, 1) := by decide +kernel
theorem dX10_refresh_61 : decode cX10_refresh 61 = .ok (.invokestatic 56, 3) := by decide +kernel
theorem dX10_refresh_64 : decode cX10_refresh 64 = .ok (.istore_n 3, 1) := by decide +kernel
theorem dX10_refresh_65 : decode cX10_refresh 65 = .ok (.aload_n 0, 1) := by decide +kernel
theorem dX10_refresh_66 : decode cX10_refresh 66 = .ok (.getfield 11, 3) := by decide +kernel
theorem dX10_refresh_69 : decode cX10_refresh 69 = .ok (.iload_n 1, 1) := by decide +kernel
theorem dX10_refresh_70 : decode cX10_refresh 70 = .ok (.aaload, 1) := by decide +kernel
theorem dX10_refresh_71 : decode cX10_refresh 71 = .ok (.ifnull 14, 3) := by decide +kernel
theorem dX10_refresh_85 : decode cX10_refresh 85 = .ok (.aload_n 0, 1) := by decide +kernel
theorem dX10_refresh_86 : decode cX10_refresh 86 = .ok (.getfield 11, 3) := by decide +kernel
theorem dX10_refresh_89 : decode cX10_refresh 89 = .ok (.iload_n 1, 1) := by decide +kernel
theorem dX10_refresh_90 : decode cX10_refresh 90 = .ok (.iload_n 3, 1) := by decide +kernel
theorem dX10_refresh_91 : decode cX10_refresh 91 = .ok (.iload_n 3, 1) := by decide +kernel
theorem dX10_refresh_92 : decode cX10_refresh 92 = .ok (.bipush 8, 2) := by decide +kernel
theorem dX10_refresh_94 : decode cX10_refresh 94 = .ok (.idiv, 1) := by decide +kernel
theorem dX10_refresh_95 : decode cX10_refresh 95 = .ok (.iadd, 1) := by decide +kernel
theorem dX10_refresh_96 : decode cX10_refresh 96 = .ok (.newarray .int, 2) := by decide +kernel
theorem dX10_refresh_98 : decode cX10_refresh 98 = .ok (.aastore, 1) := by decide +kernel
theorem dX10_refresh_99 : decode cX10_refresh 99 = .ok (.aload_n 0, 1) := by decide +kernel
theorem dX10_refresh_100 : decode cX10_refresh 100 = .ok (.aload_n 0, 1) := by decide +kernel
theorem dX10_refresh_101 : decode cX10_refresh 101 = .ok (.getfield 11, 3) := by decide +kernel
theorem dX10_refresh_104 : decode cX10_refresh 104 = .ok (.iload_n 1, 1) := by decide +kernel
theorem dX10_refresh_105 : decode cX10_refresh 105 = .ok (.aaload, 1) := by decide +kernel
theorem dX10_refresh_106 : decode cX10_refresh 106 = .ok (.putfield 61, 3) := by decide +kernel
theorem dX10_refresh_109 : decode cX10_refresh 109 = .ok (.aload_n 0, 1) := by decide +kernel
theorem dX10_refresh_110 : decode cX10_refresh 110 = .ok (.getfield 61, 3) := by decide +kernel
theorem dX10_refresh_113 : decode cX10_refresh 113 = .ok (.iconst 0, 1) := by decide +kernel
theorem dX10_refresh_114 : decode cX10_refresh 114 = .ok (.iload_n 3, 1) := by decide +kernel
theorem dX10_refresh_115 : decode cX10_refresh 115 = .ok (.iconst 0, 1) := by decide +kernel
theorem dX10_refresh_116 : decode cX10_refresh 116 = .ok (.invokestatic 64, 3) := by decide +kernel
theorem dX10_refresh_119 : decode cX10_refresh 119 = .ok (.iconst 0, 1) := by decide +kernel
theorem dX10_refresh_120 : decode cX10_refresh 120 = .ok (.istore 4, 2) := by decide +kernel
theorem dX10_refresh_122 : decode cX10_refresh 122 = .ok (.iload 4, 2) := by decide +kernel
theorem dX10_refresh_124 : decode cX10_refresh 124 = .ok (.aload_n 2, 1) := by decide +kernel
theorem dX10_refresh_125 : decode cX10_refresh 125 = .ok (.getfield 53, 3) := by decide +kernel
theorem dX10_refresh_128 : decode cX10_refresh 128 = .ok (.if_icmp .ge 16, 3) := by decide +kernel
theorem dX10_refresh_131 : decode cX10_refresh 131 = .ok (.aload_n 0, 1) := by decide +kernel
theorem dX10_refresh_132 : decode cX10_refresh 132 = .ok (.aload_n 2, 1) := by decide +kernel
theorem dX10_refresh_133 : decode cX10_refresh 133 = .ok (.iload 4, 2) := by decide +kernel
theorem dX10_refresh_135 : decode cX10_refresh 135 = .ok (.invokevirtual 70, 3) := by decide +kernel
theorem dX10_refresh_138 : decode cX10_refresh 138 = .ok (.iinc 4 1, 3) := by decide +kernel
theorem dX10_refresh_141 : decode cX10_refresh 141 = .ok (.goto (-19), 3) := by decide +kernel
set_option maxRecDepth 20000 in
theorem l_X10_refresh_122 (d : Nat) {T : CT} {σ0 : MS} {a : Nat} {c1 : Int} {rx2 : Nat} {post : Option Value → CT → MS → Prop} (h_a : OB T a 10) (r_c1 : 0 ≤ c1 ∧ c1 ≤ 5) (h_rx2 : OB T rx2 1) (t_rx2 : (T rx2).1 = 50) (hw0 : WT T σ0) (hx_144 : ∀ (i4 : Int) (σ : MS) , (WT T σ) → (FrC T [] σ0 σ) → (0 ≤ i4 ∧ i4 ≤ 2147483647) → Tn (d + 5) m_X10_refresh 144 T σ [(0, .ref a), (1, .int (iI c1)), (2, .ref rx2), (4, .int (iI i4))] [] post) : ∀ (n : Nat) (i4 : Int) (σ : MS) , (WT T σ) → (FrC T [] σ0 σ) → (0 ≤ i4 ∧ i4 ≤ 2147483647) → (2147483700 - i4).toNat = n → Tn (d + 5) m_X10_refresh 122 T σ [(0, .ref a), (1, .int (iI c1)), (2, .ref rx2), (4, .int (iI i4))] [] post := by
  intro n
  induction n using Nat.strongRecOn with
  | _ n ih =>
    intro i4 σ hw hF r_i4 hm
    refine tn_iload dX10_refresh_122 3 rfl ?_
    refine tn_aload_n dX10_refresh_124 rfl 2 rfl ?_
    refine tn_getI (ci := 1) (i := 1) (n := 6) (t := σ0.2.1 6 rx2) dX10_refresh_125 rfl lay_1 (by decide) fl10_53 h_rx2 rfl rfl (rc_F hF (Or.inl (by decide)) (by decide) (rfl)) ?_
    have g1 : ((0 : Int) ≤ σ0.2.1 6 rx2 ∧ σ0.2.1 6 rx2 ≤ 5000) ∧ ((T rx2).1 = 50 → σ0.2.1 6 rx2 ≤ 200) := wf_6 hw0 h_rx2
    have g1x := g1.2
    replace g1 := g1.1
    have g1x := g1x t_rx2
    refine tn_icmp_ge (tgt := 144) dX10_refresh_128 (by decide) ⟨by omega, by omega⟩ ⟨by omega, by omega⟩ (fun h2 => ?_) (fun h2 => ?_)
    · exact tn_sub [0, 1, 2, 3] rfl (hx_144 (i4) σ hw (FrC.rfl.trans (FrC.sub hF (by decide))) (by omega))
    · refine tn_aload_n dX10_refresh_131 rfl 0 rfl ?_
      refine tn_aload_n dX10_refresh_132 rfl 2 rfl ?_
      refine tn_iload dX10_refresh_133 3 rfl ?_
      refine tn_callV (M := m_X10_refresh) (pc := 135) (ix := 70) (ci := 10) (M' := m_X10_nameBind) (As := [.ref rx2, .int (iI i4)]) (rest := []) dX10_refresh_135 ok_X10_nameBind im_X10_nameBind se_X10_nameBind ml10_70 np_X10_nameBind rfl rfl h_a rfl (Nat.le_of_ble_eq_true rfl) (Nat.le_of_ble_eq_true rfl) rfl (k_X10_nameBind (d) (T := T) (σ := σ) (a := a) (p1 := rx2) (p2 := i4) h_a h_rx2 t_rx2 (by omega) hw ) (fun r3 T5 σ4 gt6 hp => ?_)
      obtain ⟨rfl, rfl, w8, F9⟩ := hp
      clear gt6
      show Tn _ _ 138 T σ4 [(0, .ref a), (1, .int (iI c1)), (2, .ref rx2), (4, .int (iI i4))] [] _
      refine tn_iinc (q0 := 3) (L' := [(4, .int (iI (i4 + 1))), (0, .ref a), (1, .int (iI c1)), (2, .ref rx2)]) dX10_refresh_138 rfl (by decide) rfl ?_
      refine tn_goto (tgt := 122) dX10_refresh_141 (by decide) ?_
      exact tn_sub [1, 2, 3, 0] rfl (ih _ (by omega) (i4 + 1) σ4 w8 ((FrC.rfl.trans (FrC.sub hF (by decide))).trans (FrC.sub F9 (by decide))) (by omega) rfl)
theorem ml10_74 : Cond.methodLink RX10 74 yX10_begin ∈ pWW := pw4 (List.mem_of_getElem? (i := 129) rfl) rfl
theorem cst10_82 : Cond.constant RX10 82 (1000000) ∈ pWW := pw4 (List.mem_of_getElem? (i := 133) rfl) rfl
theorem ml10_83 : Cond.methodLink RX10 83 yX10_goThrough ∈ pWW := pw4 (List.mem_of_getElem? (i := 134) rfl) rfl
theorem dX10_refresh_144 : decode cX10_refresh 144 = .ok (.aload_n 0, 1) := by decide +kernel
theorem dX10_refresh_145 : decode cX10_refresh 145 = .ok (.aload_n 2, 1) := by decide +kernel
theorem dX10_refresh_146 : decode cX10_refresh 146 = .ok (.invokevirtual 74, 3) := by decide +kernel
theorem dX10_refresh_149 : decode cX10_refresh 149 = .ok (.aload_n 0, 1) := by decide +kernel
theorem dX10_refresh_150 : decode cX10_refresh 150 = .ok (.iconst 1, 1) := by decide +kernel
theorem dX10_refresh_151 : decode cX10_refresh 151 = .ok (.putfield 78, 3) := by decide +kernel
theorem dX10_refresh_154 : decode cX10_refresh 154 = .ok (.iconst 0, 1) := by decide +kernel
theorem dX10_refresh_155 : decode cX10_refresh 155 = .ok (.istore 4, 2) := by decide +kernel
theorem dX10_refresh_157 : decode cX10_refresh 157 = .ok (.aload_n 0, 1) := by decide +kernel
theorem dX10_refresh_158 : decode cX10_refresh 158 = .ok (.getfield 78, 3) := by decide +kernel
theorem dX10_refresh_161 : decode cX10_refresh 161 = .ok (.ifCond .eq 46, 3) := by decide +kernel
theorem dX10_refresh_164 : decode cX10_refresh 164 = .ok (.iload 4, 2) := by decide +kernel
theorem dX10_refresh_166 : decode cX10_refresh 166 = .ok (.ldc 82, 2) := by decide +kernel
theorem dX10_refresh_168 : decode cX10_refresh 168 = .ok (.if_icmp .ge 39, 3) := by decide +kernel
theorem dX10_refresh_171 : decode cX10_refresh 171 = .ok (.aload_n 0, 1) := by decide +kernel
theorem dX10_refresh_172 : decode cX10_refresh 172 = .ok (.iconst 0, 1) := by decide +kernel
theorem dX10_refresh_173 : decode cX10_refresh 173 = .ok (.putfield 78, 3) := by decide +kernel
theorem dX10_refresh_176 : decode cX10_refresh 176 = .ok (.iconst 0, 1) := by decide +kernel
theorem dX10_refresh_177 : decode cX10_refresh 177 = .ok (.istore 5, 2) := by decide +kernel
theorem dX10_refresh_179 : decode cX10_refresh 179 = .ok (.iload 5, 2) := by decide +kernel
theorem dX10_refresh_181 : decode cX10_refresh 181 = .ok (.aload_n 2, 1) := by decide +kernel
theorem dX10_refresh_182 : decode cX10_refresh 182 = .ok (.getfield 53, 3) := by decide +kernel
theorem dX10_refresh_185 : decode cX10_refresh 185 = .ok (.if_icmp .ge 16, 3) := by decide +kernel
theorem dX10_refresh_188 : decode cX10_refresh 188 = .ok (.aload_n 0, 1) := by decide +kernel
theorem dX10_refresh_189 : decode cX10_refresh 189 = .ok (.aload_n 2, 1) := by decide +kernel
theorem dX10_refresh_190 : decode cX10_refresh 190 = .ok (.iload 5, 2) := by decide +kernel
theorem dX10_refresh_192 : decode cX10_refresh 192 = .ok (.invokevirtual 83, 3) := by decide +kernel
theorem dX10_refresh_195 : decode cX10_refresh 195 = .ok (.iinc 5 1, 3) := by decide +kernel
theorem dX10_refresh_198 : decode cX10_refresh 198 = .ok (.goto (-19), 3) := by decide +kernel
set_option maxRecDepth 20000 in
theorem l_X10_refresh_179 (d : Nat) {T : CT} {σ0 : MS} {a : Nat} {c1 : Int} {rx2 : Nat} {c4 : Int} {post : Option Value → CT → MS → Prop} (h_a : OB T a 10) (r_c1 : 0 ≤ c1 ∧ c1 ≤ 5) (h_rx2 : OB T rx2 1) (t_rx2 : (T rx2).1 = 50) (r_c4 : 0 ≤ c4 ∧ c4 ≤ 999999) (hw0 : WT T σ0) (hx_201 : ∀ (i5 : Int) (σ : MS) , (WT T σ) → (FrC T [94] σ0 σ) → (0 ≤ i5 ∧ i5 ≤ 2147483647) → Tn (d + 5) m_X10_refresh 201 T σ [(0, .ref a), (1, .int (iI c1)), (2, .ref rx2), (4, .int (iI c4)), (5, .int (iI i5))] [] post) : ∀ (n : Nat) (i5 : Int) (σ : MS) , (WT T σ) → (FrC T [94] σ0 σ) → (0 ≤ i5 ∧ i5 ≤ 2147483647) → (2147483700 - i5).toNat = n → Tn (d + 5) m_X10_refresh 179 T σ [(0, .ref a), (1, .int (iI c1)), (2, .ref rx2), (4, .int (iI c4)), (5, .int (iI i5))] [] post := by
  intro n
  induction n using Nat.strongRecOn with
  | _ n ih =>
    intro i5 σ hw hF r_i5 hm
    refine tn_iload dX10_refresh_179 4 rfl ?_
    refine tn_aload_n dX10_refresh_181 rfl 2 rfl ?_
    refine tn_getI (ci := 1) (i := 1) (n := 6) (t := σ0.2.1 6 rx2) dX10_refresh_182 rfl lay_1 (by decide) fl10_53 h_rx2 rfl rfl (rc_F hF (Or.inl (by decide)) (by decide) (rfl)) ?_
    have g1 : ((0 : Int) ≤ σ0.2.1 6 rx2 ∧ σ0.2.1 6 rx2 ≤ 5000) ∧ ((T rx2).1 = 50 → σ0.2.1 6 rx2 ≤ 200) := wf_6 hw0 h_rx2
    have g1x := g1.2
    replace g1 := g1.1
    have g1x := g1x t_rx2
    refine tn_icmp_ge (tgt := 201) dX10_refresh_185 (by decide) ⟨by omega, by omega⟩ ⟨by omega, by omega⟩ (fun h2 => ?_) (fun h2 => ?_)
    · exact tn_sub [0, 1, 2, 3, 4] rfl (hx_201 (i5) σ hw (FrC.rfl.trans (FrC.sub hF (by decide))) (by omega))
    · refine tn_aload_n dX10_refresh_188 rfl 0 rfl ?_
      refine tn_aload_n dX10_refresh_189 rfl 2 rfl ?_
      refine tn_iload dX10_refresh_190 4 rfl ?_
      refine tn_callV (M := m_X10_refresh) (pc := 192) (ix := 83) (ci := 10) (M' := m_X10_goThrough) (As := [.ref rx2, .int (iI i5)]) (rest := []) dX10_refresh_192 ok_X10_goThrough im_X10_goThrough se_X10_goThrough ml10_83 np_X10_goThrough rfl rfl h_a rfl (Nat.le_of_ble_eq_true rfl) (Nat.le_of_ble_eq_true rfl) rfl (k_X10_goThrough (d) (T := T) (σ := σ) (a := a) (p1 := rx2) (p2 := i5) h_a h_rx2 t_rx2 (by omega) hw ) (fun r3 T5 σ4 gt6 hp => ?_)
      obtain ⟨rfl, rfl, w8, F9⟩ := hp
      clear gt6
      show Tn _ _ 195 T σ4 [(0, .ref a), (1, .int (iI c1)), (2, .ref rx2), (4, .int (iI c4)), (5, .int (iI i5))] [] _
      refine tn_iinc (q0 := 4) (L' := [(5, .int (iI (i5 + 1))), (0, .ref a), (1, .int (iI c1)), (2, .ref rx2), (4, .int (iI c4))]) dX10_refresh_195 rfl (by decide) rfl ?_
      refine tn_goto (tgt := 179) dX10_refresh_198 (by decide) ?_
      exact tn_sub [1, 2, 3, 4, 0] rfl (ih _ (by omega) (i5 + 1) σ4 w8 ((FrC.rfl.trans (FrC.sub hF (by decide))).trans (FrC.sub F9 (by decide))) (by omega) rfl)
theorem dX10_refresh_201 : decode cX10_refresh 201 = .ok (.iinc 4 1, 3) := by decide +kernel
theorem dX10_refresh_204 : decode cX10_refresh 204 = .ok (.goto (-47), 3) := by decide +kernel
set_option maxRecDepth 20000 in
theorem l_X10_refresh_157 (d : Nat) {T : CT} {σ0 : MS} {a : Nat} {c1 : Int} {rx2 : Nat} {post : Option Value → CT → MS → Prop} (h_a : OB T a 10) (r_c1 : 0 ≤ c1 ∧ c1 ≤ 5) (h_rx2 : OB T rx2 1) (t_rx2 : (T rx2).1 = 50) (hw0 : WT T σ0) (hx_207 : ∀ (i4 : Int) (σ : MS) , (WT T σ) → (FrC T [94] σ0 σ) → (0 ≤ i4 ∧ i4 ≤ 2147483647) → Tn (d + 5) m_X10_refresh 207 T σ [(0, .ref a), (1, .int (iI c1)), (2, .ref rx2), (4, .int (iI i4))] [] post) : ∀ (n : Nat) (i4 : Int) (σ : MS) , (WT T σ) → (FrC T [94] σ0 σ) → (0 ≤ i4 ∧ i4 ≤ 2147483647) → (2147483700 - i4).toNat = n → Tn (d + 5) m_X10_refresh 157 T σ [(0, .ref a), (1, .int (iI c1)), (2, .ref rx2), (4, .int (iI i4))] [] post := by
  intro n
  induction n using Nat.strongRecOn with
  | _ n ih =>
    intro i4 σ hw hF r_i4 hm
    refine tn_aload_n dX10_refresh_157 rfl 0 rfl ?_
    refine tn_getI (ci := 10) (i := 6) (n := 94) (t := σ.2.1 94 a) dX10_refresh_158 rfl lay_10 (by decide) fl10_78 h_a rfl rfl (rfl) ?_
    have g1 : ((0 : Int) ≤ σ.2.1 94 a ∧ σ.2.1 94 a ≤ 1) := wf_94 hw h_a
    refine tn_if_eq (tgt := 207) dX10_refresh_161 (by decide) ⟨by omega, by omega⟩ (fun h2 => ?_) (fun h2 => ?_)
    · exact tn_sub [0, 1, 2, 3] rfl (hx_207 (i4) σ hw (FrC.rfl.trans (FrC.sub hF (by decide))) (by omega))
    · refine tn_iload dX10_refresh_164 3 rfl ?_
      refine tn_ldc (n := 1000000) dX10_refresh_166 cst10_82 rfl ?_
      refine tn_icmp_ge (tgt := 207) dX10_refresh_168 (by decide) ⟨by omega, by omega⟩ ⟨by decide, by decide⟩ (fun h3 => ?_) (fun h3 => ?_)
      · exact tn_sub [0, 1, 2, 3] rfl (hx_207 (i4) σ hw (FrC.rfl.trans (FrC.sub hF (by decide))) (by omega))
      · refine tn_aload_n dX10_refresh_171 rfl 0 rfl ?_
        refine tn_iconst dX10_refresh_172 ?_
        refine tn_putV (ci := 10) (i := 6) (n := 94) (r := false) (v := 0) tyX10 tyX10_ok nmX10 dX10_refresh_173 rfl lay_10 (by decide) fl10_78 rfl (tyX10_ok 6 (by decide)) rfl rfl rfl h_a rfl rfl ?_
        refine tn_iconst dX10_refresh_176 ?_
        refine tn_istore (L' := [(5, .int (iI 0)), (0, .ref a), (1, .int (iI c1)), (2, .ref rx2), (4, .int (iI i4))]) dX10_refresh_177 (by decide) rfl ?_
        refine tn_sub [1, 2, 3, 4, 0] rfl (l_X10_refresh_179 (d) (T := T) (σ0 := (sA 94 a (0) σ)) (a := a) (c1 := c1) (rx2 := rx2) (c4 := i4) h_a (by omega) h_rx2 t_rx2 (by omega) (hw.put (by decide) (by decide) (fo_94 (by omega))) (fun i54 σ5 w8 F9 r10 => ?_) _ (0) (sA 94 a (0) σ) (hw.put (by decide) (by decide) (fo_94 (by omega))) FrC.rfl (by omega) rfl)
        show Tn _ _ 201 T σ5 [(0, .ref a), (1, .int (iI c1)), (2, .ref rx2), (4, .int (iI i4)), (5, .int (iI i54))] [] _
        refine tn_iinc (q0 := 3) (L' := [(4, .int (iI (i4 + 1))), (0, .ref a), (1, .int (iI c1)), (2, .ref rx2), (5, .int (iI i54))]) dX10_refresh_201 rfl (by decide) rfl ?_
        refine tn_goto (tgt := 157) dX10_refresh_204 (by decide) ?_
        exact tn_sub [1, 2, 3, 0] rfl (ih _ (by omega) (i4 + 1) σ5 w8 (((FrC.rfl.trans (FrC.sub hF (by decide))).put (by decide) (by decide)).trans (FrC.sub F9 (by decide))) (by omega) rfl)
theorem dX10_refresh_207 : decode cX10_refresh 207 = .ok (.aload_n 0, 1) := by decide +kernel
theorem dX10_refresh_208 : decode cX10_refresh 208 = .ok (.getfield 17, 3) := by decide +kernel
theorem dX10_refresh_211 : decode cX10_refresh 211 = .ok (.iload_n 1, 1) := by decide +kernel
theorem dX10_refresh_212 : decode cX10_refresh 212 = .ok (.iconst 1, 1) := by decide +kernel
theorem dX10_refresh_213 : decode cX10_refresh 213 = .ok (.iastore, 1) := by decide +kernel
theorem dX10_refresh_214 : decode cX10_refresh 214 = .ok (.return_, 1) := by decide +kernel
theorem dX10_refresh_74 : decode cX10_refresh 74 = .ok (.aload_n 0, 1) := by decide +kernel
theorem dX10_refresh_75 : decode cX10_refresh 75 = .ok (.getfield 11, 3) := by decide +kernel
theorem dX10_refresh_78 : decode cX10_refresh 78 = .ok (.iload_n 1, 1) := by decide +kernel
theorem dX10_refresh_79 : decode cX10_refresh 79 = .ok (.aaload, 1) := by decide +kernel
theorem dX10_refresh_80 : decode cX10_refresh 80 = .ok (.arraylength, 1) := by decide +kernel
theorem dX10_refresh_81 : decode cX10_refresh 81 = .ok (.iload_n 3, 1) := by decide +kernel
theorem dX10_refresh_82 : decode cX10_refresh 82 = .ok (.if_icmp .ge 17, 3) := by decide +kernel
set_option maxRecDepth 20000 in
theorem k_X10_refresh (d : Nat) {T : CT} {σ : MS} {a : Nat} {r : Int} {c : Nat} (ha : OB T a 10) (h_r : -2147483648 ≤ r ∧ r ≤ 2147483647) (h_c : OB T c 1) (t_c : (T c).1 = 50) (hw : WT T σ) : Tn (d + 5) m_X10_refresh 0 T σ [(0, .ref a), (1, .int (iI r)), (2, .ref c)] [] (fun ro T2 σ2 => ro = none ∧ WT T2 σ2 ∧ FrC T [92, 93, 94, 900] σ σ2) := by
  refine tn_aload_n dX10_refresh_0 rfl 2 rfl ?_
  refine tn_ifnull dX10_refresh_1 ?_
  refine tn_iload_n dX10_refresh_4 rfl 1 rfl ?_
  refine tn_if_lt (tgt := 35) dX10_refresh_5 (by decide) ⟨by omega, by omega⟩ (fun h1 => ?_) (fun h1 => ?_)
  · exact tn_vret rfl dX10_refresh_35 ⟨rfl, hw, FrC.rfl⟩
  · refine tn_iload_n dX10_refresh_8 rfl 1 rfl ?_
    refine tn_aload_n dX10_refresh_9 rfl 0 rfl ?_
    obtain ⟨x2, hx3, hk4, hl5⟩ : ∃ x : Nat, σ.2.1 88 a = (x : Int) ∧ AR T x 7 6 6 := wf_88 hw ha
    refine tn_getR (ci := 10) (i := 0) (n := 88) (x := x2) dX10_refresh_10 rfl lay_10 (by decide) fl10_11 ha rfl rfl (hx3) ?_
    refine tn_alenX dX10_refresh_13 (Or.inr (Or.inr (Or.inr (Or.inr (Or.inr hk4))))) ?_
    refine tn_icmp_ge (tgt := 35) dX10_refresh_14 (by decide) ⟨by omega, by omega⟩ ⟨by omega, by omega⟩ (fun h6 => ?_) (fun h6 => ?_)
    · exact tn_vret rfl dX10_refresh_35 ⟨rfl, hw, FrC.rfl⟩
    · refine tn_iload_n dX10_refresh_17 rfl 1 rfl ?_
      refine tn_aload_n dX10_refresh_18 rfl 0 rfl ?_
      obtain ⟨x7, hx8, hk9, hl10⟩ : ∃ x : Nat, σ.2.1 89 a = (x : Int) ∧ AR T x 1 6 6 := wf_89 hw ha
      have hk9i : IA T x7 := by unfold IA; omega
      refine tn_getR (ci := 10) (i := 1) (n := 89) (x := x7) dX10_refresh_19 rfl lay_10 (by decide) fl10_17 ha rfl rfl (hx8) ?_
      refine tn_alenX dX10_refresh_22 (Or.inl hk9i) ?_
      refine tn_icmp_ge (tgt := 35) dX10_refresh_23 (by decide) ⟨by omega, by omega⟩ ⟨by omega, by omega⟩ (fun h11 => absurd h11 (by omega)) (fun h11 => ?_)
      refine tn_aload_n dX10_refresh_26 rfl 0 rfl ?_
      refine tn_getR (ci := 10) (i := 1) (n := 89) (x := x7) dX10_refresh_27 rfl lay_10 (by decide) fl10_17 ha rfl rfl (hx8) ?_
      refine tn_iload_n dX10_refresh_30 rfl 1 rfl ?_
      refine tn_ialdX (z := r) hw dX10_refresh_31 hk9i (by omega) (by omega) (by omega) (fun v12 g13q g13 g13k => ?_)
      clear g13k g13q
      refine tn_if_eq (tgt := 36) dX10_refresh_32 (by decide) ⟨by omega, by omega⟩ (fun h14 => ?_) (fun h14 => ?_)
      · refine tn_aload_n dX10_refresh_36 rfl 0 rfl ?_
        refine tn_aload_n dX10_refresh_37 rfl 2 rfl ?_
        refine tn_aload_n dX10_refresh_38 rfl 2 rfl ?_
        refine tn_getI (ci := 1) (i := 5) (n := 10) (t := σ.2.1 10 c) dX10_refresh_39 rfl lay_1 (by decide) fl10_30 h_c rfl rfl (rfl) ?_
        have g15 : ((0 : Int) ≤ σ.2.1 10 c ∧ σ.2.1 10 c ≤ 12) := wf_10 hw h_c
        refine tn_iconst dX10_refresh_42 ?_
        refine tn_callV (M := m_X10_refresh) (pc := 43) (ix := 36) (ci := 1) (M' := m_X1_slotOf) (As := [.int (iI (σ.2.1 10 c)), .int (iI 0)]) (rest := [.ref a]) dX10_refresh_43 ok_X1_slotOf im_X1_slotOf se_X1_slotOf ml10_36 np_X1_slotOf rfl rfl h_c rfl (Nat.le_of_ble_eq_true rfl) (Nat.le_of_ble_eq_true rfl) rfl (k_X1_slotOf (d + 3) (T := T) (σ := σ) (a := c) (f := σ.2.1 10 c) (m := 0) h_c (by omega) (by decide) hw (by omega)) (fun r16 T18 σ17 gt19 hp => ?_)
        obtain ⟨v22, rfl, rfl, rfl, f20, f21⟩ := hp
        clear gt19
        show Tn _ _ 46 T σ [(0, .ref a), (1, .int (iI r)), (2, .ref c)] [.int (iI v22), .ref a] _
        refine tn_putV (ci := 10) (i := 5) (n := 93) (r := false) (v := v22) tyX10 tyX10_ok nmX10 dX10_refresh_46 rfl lay_10 (by decide) fl10_50 rfl (tyX10_ok 5 (by decide)) rfl rfl rfl ha rfl rfl ?_
        refine tn_iconst dX10_refresh_49 ?_
        refine tn_aload_n dX10_refresh_50 rfl 2 rfl ?_
        refine tn_getI (ci := 1) (i := 1) (n := 6) (t := σ.2.1 6 c) dX10_refresh_51 rfl lay_1 (by decide) fl10_53 h_c rfl rfl (rc_o (by decide) (rfl)) ?_
        have g23 : ((0 : Int) ≤ σ.2.1 6 c ∧ σ.2.1 6 c ≤ 5000) ∧ ((T c).1 = 50 → σ.2.1 6 c ≤ 200) := wf_6 hw h_c
        have g23x := g23.2
        replace g23 := g23.1
        have g23x := g23x t_c
        refine tn_iconst dX10_refresh_54 ?_
        refine tn_iadd dX10_refresh_55 ?_
        refine tn_aload_n dX10_refresh_56 rfl 0 rfl ?_
        refine tn_getI (ci := 10) (i := 5) (n := 93) (t := v22) dX10_refresh_57 rfl lay_10 (by decide) fl10_50 ha rfl rfl (ra_eq) ?_
        refine tn_imul dX10_refresh_60 ?_
        have g25 : 1 ≤ ((σ.2.1 6 c) + 1) * v22 ∧ ((σ.2.1 6 c) + 1) * v22 ≤ 29145 := mul_rng1 (b := 201) (d := 145) (by omega) (by omega) (by omega) (by omega) (by decide)
        generalize ((σ.2.1 6 c) + 1) * v22 = z24 at g25 ⊢
        refine tn_mmax (x := 0) (y := z24) dX10_refresh_61 mlm10_56 stM_max iniM cdM_max (by omega) (Nat.le_of_ble_eq_true rfl) ⟨by omega, by omega⟩ ⟨by omega, by omega⟩ (fun z26 g27 => ?_)
        refine tn_istore_n (L' := [(3, .int (iI z26)), (0, .ref a), (1, .int (iI r)), (2, .ref c)]) dX10_refresh_64 rfl (by decide) rfl ?_
        refine tn_aload_n dX10_refresh_65 rfl 1 rfl ?_
        refine tn_getR (ci := 10) (i := 0) (n := 88) (x := x2) dX10_refresh_66 rfl lay_10 (by decide) fl10_11 ha rfl rfl (rc_o (by decide) (hx3)) ?_
        refine tn_iload_n dX10_refresh_69 rfl 2 rfl ?_
        rcases hw.2.2.2.2.1.2 (r) (by omega) (by omega) with hx28 | ⟨x29, hx28, hk30, hl31⟩
        · refine tn_aaldMN (z := r) dX10_refresh_70 hk4 (by omega) (by omega) (by omega) (Int.lt_of_le_of_lt (Int.le_of_eq (rc_o (by decide) (Eq.refl _))) hx28) ?_
          refine tn_ifnullN (tgt := 85) dX10_refresh_71 (by decide) ?_
          refine tn_aload_n dX10_refresh_85 rfl 1 rfl ?_
          refine tn_getR (ci := 10) (i := 0) (n := 88) (x := x2) dX10_refresh_86 rfl lay_10 (by decide) fl10_11 ha rfl rfl (rc_o (by decide) (hx3)) ?_
          refine tn_iload_n dX10_refresh_89 rfl 2 rfl ?_
          refine tn_iload_n dX10_refresh_90 rfl 0 rfl ?_
          refine tn_iload_n dX10_refresh_91 rfl 0 rfl ?_
          refine tn_bipush dX10_refresh_92 (by decide) ?_
          refine tn_idivX dX10_refresh_94 (by decide) ?_
          obtain ⟨z32, g33, g33e⟩ := div8 (x := z26) (by omega) (by omega)
          rw [g33e]
          refine tn_iadd dX10_refresh_95 ?_
          obtain ⟨N34, N34e⟩ : ∃ N : Nat, z26 + z32 = (N : Int) := ⟨(z26 + z32).toNat, by omega⟩
          have ol47 : tLen T (sA 93 a (v22) σ) (r) = 0 := by unfold tLen; rw [if_pos (Int.lt_of_le_of_lt (Int.le_of_eq (rc_o (by decide) (Eq.refl _))) hx28)]
          refine tn_newI (N := N34) (k := 1) dX10_refresh_96 arC_int (Or.inl rfl) N34e (by omega) (fun x35 hx36 => ?_)
          have w41 := WT.tab (T := T) (σ := (sA 93 a (v22) σ)) (hw.put (by decide) (by decide) (fo_93 (by omega))) hx36 (r := r) ⟨by omega, by omega⟩ (N := N34) (by omega) (by omega) (by omega) (by omega)
          have gt42 : GT T (tT T x35 1 N34) := fun b p _ => tT_gt hx36 b p
          have l45 : (tT T x35 1 N34 x35) = (1, N34) := tT_eq
          have F43 : FrC T [92, 93, 94, 900] σ (sA 900 (r) (x35 : Int) (rowS (1000 + x35) (fun _ => 0) (gh N34 (sA 93 a (v22) σ)))) := FrC.put9 (FrC.row (FrC.gh (FrC.rfl.put (by decide) (by decide))) (hk_no (by unfold NH HT; omega))) (by decide)
          have q44 : (sA 900 (r) (x35 : Int) (rowS (1000 + x35) (fun _ => 0) (gh N34 (sA 93 a (v22) σ)))).2.1 900 (r) = (x35 : Int) := ra_eq
          have ix46 : IA (tT T x35 1 N34) x35 := by unfold IA; rw [l45]; exact Or.inl rfl
          refine tn_aastM (z := r) (v := x35) (fun b q => (w41).2.2.2.2.1.1 b x2 q (gt42.kk hk4 (by decide) (by decide))) dX10_refresh_98 (gt42.kk hk4 (by decide) (by decide)) ix46 (by omega) (by rw [gt42.lenK hk4 (by decide) (by decide)]; omega) (by rw [gt42.lenK hk4 (by decide) (by decide)]; omega) ?_
          generalize hT39 : tT T x35 1 N34 = T37 at w41 gt42 l45 ix46 ⊢
          generalize h40 : (sA 900 (r) (x35 : Int) (rowS (1000 + x35) (fun _ => 0) (gh N34 (sA 93 a (v22) σ)))) = σ38 at w41 F43 q44 ⊢
          replace ha : OB T37 a 10 := gt42.ob ha
          replace t_c : (T37 c).1 = 50 := gt42.kk t_c (by decide) (by decide)
          replace h_c : OB T37 c 1 := gt42.ob h_c
          have l45k : (T37 x35).1 = 1 := by rw [l45]
          have l45n : (T37 x35).2 = N34 := by rw [l45]
          show Tn _ _ 99 T37 σ38 [(3, .int (iI z26)), (0, .ref a), (1, .int (iI r)), (2, .ref c)] [] _
          refine tn_aload_n dX10_refresh_99 rfl 1 rfl ?_
          refine tn_aload_n dX10_refresh_100 rfl 1 rfl ?_
          obtain ⟨x48, hx49, hk50, hl51⟩ : ∃ x : Nat, σ38.2.1 88 a = (x : Int) ∧ AR T37 x 7 6 6 := wf_88 w41 ha
          refine tn_getR (ci := 10) (i := 0) (n := 88) (x := x48) dX10_refresh_101 rfl lay_10 (by decide) fl10_11 ha rfl rfl (hx49) ?_
          refine tn_iload_n dX10_refresh_104 rfl 2 rfl ?_
          refine tn_aaldM (z := r) (x := x35) dX10_refresh_105 hk50 (by omega) (by omega) (by omega) (q44) ?_
          refine tn_putV (ci := 10) (i := 4) (n := 92) (r := true) (v := (x35 : Int)) tyX10 tyX10_ok nmX10 dX10_refresh_106 rfl lay_10 (by decide) fl10_61 rfl (tyX10_ok 4 (by decide)) (vl_ref rfl).symm rfl rfl ha rfl rfl ?_
          refine tn_aload_n dX10_refresh_109 rfl 1 rfl ?_
          refine tn_getR (ci := 10) (i := 4) (n := 92) (x := x35) dX10_refresh_110 rfl lay_10 (by decide) fl10_61 ha rfl rfl (ra_eq) ?_
          refine tn_iconst dX10_refresh_113 ?_
          refine tn_iload_n dX10_refresh_114 rfl 0 rfl ?_
          refine tn_iconst dX10_refresh_115 ?_
          refine tn_callS (M := m_X10_refresh) (pc := 116) (ix := 64) (M' := m_J7_fill_fda19) (As := [.ref x35, .int (iI 0), .int (iI z26), .int (iI 0)]) (rest := []) dX10_refresh_116 ok_J7_fill_fda19 stt_J7_fill_fda19 ml10_64 np_J7_fill_fda19 rfl (Nat.le_of_ble_eq_true rfl) (Nat.le_of_ble_eq_true rfl) rfl (k_J7_fill_fda19 (d + 2) (T := T37) (σ := (sA 92 a ((x35 : Int)) σ38)) (x := x35) (f := 0) (t := z26) (y := 0) ix46 (by omega) (by decide) (by omega) (by decide) (w41.put (by decide) (by decide) (fo_92 (Or.inr ⟨_, rfl, l45k, by omega, by omega⟩))) (nh_k l45k (by unfold HT; omega)) (by omega) (by omega)) (fun r52 T54 σ53 gt55 hp => ?_)
          obtain ⟨rfl, rfl, w57, F58⟩ := hp
          clear gt55
          show Tn _ _ 119 T37 σ53 [(3, .int (iI z26)), (0, .ref a), (1, .int (iI r)), (2, .ref c)] [] _
          refine tn_iconst dX10_refresh_119 ?_
          refine tn_istore (L' := [(4, .int (iI 0)), (3, .int (iI z26)), (0, .ref a), (1, .int (iI r)), (2, .ref c)]) dX10_refresh_120 (by decide) rfl ?_
          refine tn_sub [2, 3, 4, 0] rfl (l_X10_refresh_122 (d) (T := T37) (σ0 := σ53) (a := a) (c1 := r) (rx2 := c) ha (by omega) h_c t_c w57 (fun i459 σ60 w63 F64 r65 => ?_) _ (0) σ53 w57 FrC.rfl (by omega) rfl)
          show Tn _ _ 144 T37 σ60 [(0, .ref a), (1, .int (iI r)), (2, .ref c), (4, .int (iI i459))] [] _
          refine tn_aload_n dX10_refresh_144 rfl 0 rfl ?_
          refine tn_aload_n dX10_refresh_145 rfl 2 rfl ?_
          refine tn_callV (M := m_X10_refresh) (pc := 146) (ix := 74) (ci := 10) (M' := m_X10_begin) (As := [.ref c]) (rest := []) dX10_refresh_146 ok_X10_begin im_X10_begin se_X10_begin ml10_74 np_X10_begin rfl rfl ha rfl (Nat.le_of_ble_eq_true rfl) (Nat.le_of_ble_eq_true rfl) rfl (k_X10_begin (d + 2) (T := T37) (σ := σ60) (a := a) (p1 := c) ha h_c t_c w63 ) (fun r66 T68 σ67 gt69 hp => ?_)
          obtain ⟨rfl, rfl, w71, F72⟩ := hp
          clear gt69
          show Tn _ _ 149 T37 σ67 [(0, .ref a), (1, .int (iI r)), (2, .ref c), (4, .int (iI i459))] [] _
          refine tn_aload_n dX10_refresh_149 rfl 0 rfl ?_
          refine tn_iconst dX10_refresh_150 ?_
          refine tn_putV (ci := 10) (i := 6) (n := 94) (r := false) (v := 1) tyX10 tyX10_ok nmX10 dX10_refresh_151 rfl lay_10 (by decide) fl10_78 rfl (tyX10_ok 6 (by decide)) rfl rfl rfl ha rfl rfl ?_
          refine tn_iconst dX10_refresh_154 ?_
          refine tn_istore (L' := [(4, .int (iI 0)), (0, .ref a), (1, .int (iI r)), (2, .ref c)]) dX10_refresh_155 (by decide) rfl ?_
          refine tn_sub [1, 2, 3, 0] rfl (l_X10_refresh_157 (d) (T := T37) (σ0 := (sA 94 a (1) σ67)) (a := a) (c1 := r) (rx2 := c) ha (by omega) h_c t_c (w71.put (by decide) (by decide) (fo_94 (by omega))) (fun i473 σ74 w77 F78 r79 => ?_) _ (0) (sA 94 a (1) σ67) (w71.put (by decide) (by decide) (fo_94 (by omega))) FrC.rfl (by omega) rfl)
          show Tn _ _ 207 T37 σ74 [(0, .ref a), (1, .int (iI r)), (2, .ref c), (4, .int (iI i473))] [] _
          refine tn_aload_n dX10_refresh_207 rfl 0 rfl ?_
          obtain ⟨x80, hx81, hk82, hl83⟩ : ∃ x : Nat, σ38.2.1 89 a = (x : Int) ∧ AR T37 x 1 6 6 := wf_89 w41 ha
          have hk82i : IA T37 x80 := by unfold IA; omega
          refine tn_getR (ci := 10) (i := 1) (n := 89) (x := x80) dX10_refresh_208 rfl lay_10 (by decide) fl10_17 ha rfl rfl (rc_F F78 (Or.inl (by decide)) (by decide) (rc_o (by decide) (rc_F F72 (Or.inl (by decide)) (by decide) (rc_F F64 (Or.inl (by decide)) (by decide) (rc_F F58 (Or.inl (by decide)) (by decide) (rc_o (by decide) (hx81))))))) ?_
          refine tn_iload_n dX10_refresh_211 rfl 1 rfl ?_
          refine tn_iconst dX10_refresh_212 ?_
          refine tn_iast (z := r) (v := 1) dX10_refresh_213 hk82i (by omega) (by omega) (by omega) ?_
          exact tn_vret rfl dX10_refresh_214 ⟨rfl, (w77.arr (Or.inl hk82i) (vok_1 (by have q9 := hk82; omega) (by omega))), ((((((((FrC.rfl.trans (FrC.sub F43 (by decide))).put (by decide) (by decide)).trans (FrC.sub (FrC.old F58 gt42) (by decide))).trans (FrC.sub (FrC.old F64 gt42) (by decide))).trans (FrC.sub (FrC.old F72 gt42) (by decide))).put (by decide) (by decide)).trans (FrC.sub (FrC.old F78 gt42) (by decide))).arr (hk_no (GT.nh gt42 (nh_k hk82 (by unfold HT; omega)))))⟩
        · refine tn_aaldM (z := r) (x := x29) dX10_refresh_70 hk4 (by omega) (by omega) (by omega) (rc_o (by decide) (hx28)) ?_
          have hk30i : IA T x29 := by unfold IA; omega
          refine tn_ifnull dX10_refresh_71 ?_
          refine tn_aload_n dX10_refresh_74 rfl 1 rfl ?_
          refine tn_getR (ci := 10) (i := 0) (n := 88) (x := x2) dX10_refresh_75 rfl lay_10 (by decide) fl10_11 ha rfl rfl (rc_o (by decide) (hx3)) ?_
          refine tn_iload_n dX10_refresh_78 rfl 2 rfl ?_
          refine tn_aaldM (z := r) (x := x29) dX10_refresh_79 hk4 (by omega) (by omega) (by omega) (rc_o (by decide) (hx28)) ?_
          refine tn_alenX dX10_refresh_80 (Or.inl hk30i) ?_
          refine tn_iload_n dX10_refresh_81 rfl 0 rfl ?_
          refine tn_icmp_ge (tgt := 99) dX10_refresh_82 (by decide) ⟨by omega, by omega⟩ ⟨by omega, by omega⟩ (fun h84 => ?_) (fun h84 => ?_)
          · refine tn_aload_n dX10_refresh_99 rfl 1 rfl ?_
            refine tn_aload_n dX10_refresh_100 rfl 1 rfl ?_
            refine tn_getR (ci := 10) (i := 0) (n := 88) (x := x2) dX10_refresh_101 rfl lay_10 (by decide) fl10_11 ha rfl rfl (rc_o (by decide) (hx3)) ?_
            refine tn_iload_n dX10_refresh_104 rfl 2 rfl ?_
            refine tn_aaldM (z := r) (x := x29) dX10_refresh_105 hk4 (by omega) (by omega) (by omega) (rc_o (by decide) (hx28)) ?_
            refine tn_putV (ci := 10) (i := 4) (n := 92) (r := true) (v := (x29 : Int)) tyX10 tyX10_ok nmX10 dX10_refresh_106 rfl lay_10 (by decide) fl10_61 rfl (tyX10_ok 4 (by decide)) (vl_ref rfl).symm rfl rfl ha rfl rfl ?_
            refine tn_aload_n dX10_refresh_109 rfl 1 rfl ?_
            refine tn_getR (ci := 10) (i := 4) (n := 92) (x := x29) dX10_refresh_110 rfl lay_10 (by decide) fl10_61 ha rfl rfl (ra_eq) ?_
            refine tn_iconst dX10_refresh_113 ?_
            refine tn_iload_n dX10_refresh_114 rfl 0 rfl ?_
            refine tn_iconst dX10_refresh_115 ?_
            refine tn_callS (M := m_X10_refresh) (pc := 116) (ix := 64) (M' := m_J7_fill_fda19) (As := [.ref x29, .int (iI 0), .int (iI z26), .int (iI 0)]) (rest := []) dX10_refresh_116 ok_J7_fill_fda19 stt_J7_fill_fda19 ml10_64 np_J7_fill_fda19 rfl (Nat.le_of_ble_eq_true rfl) (Nat.le_of_ble_eq_true rfl) rfl (k_J7_fill_fda19 (d + 2) (T := T) (σ := (sA 92 a ((x29 : Int)) (sA 93 a (v22) σ))) (x := x29) (f := 0) (t := z26) (y := 0) hk30i (by omega) (by decide) (by omega) (by decide) ((hw.put (by decide) (by decide) (fo_93 (by omega))).put (by decide) (by decide) (fo_92 (Or.inr ⟨_, rfl, hk30, by omega, by omega⟩))) (nh_k hk30 (by unfold HT; omega)) (by omega) (by omega)) (fun r85 T87 σ86 gt88 hp => ?_)
            obtain ⟨rfl, rfl, w90, F91⟩ := hp
            clear gt88
            show Tn _ _ 119 T σ86 [(3, .int (iI z26)), (0, .ref a), (1, .int (iI r)), (2, .ref c)] [] _
            refine tn_iconst dX10_refresh_119 ?_
            refine tn_istore (L' := [(4, .int (iI 0)), (3, .int (iI z26)), (0, .ref a), (1, .int (iI r)), (2, .ref c)]) dX10_refresh_120 (by decide) rfl ?_
            refine tn_sub [2, 3, 4, 0] rfl (l_X10_refresh_122 (d) (T := T) (σ0 := σ86) (a := a) (c1 := r) (rx2 := c) ha (by omega) h_c t_c w90 (fun i492 σ93 w96 F97 r98 => ?_) _ (0) σ86 w90 FrC.rfl (by omega) rfl)
            show Tn _ _ 144 T σ93 [(0, .ref a), (1, .int (iI r)), (2, .ref c), (4, .int (iI i492))] [] _
            refine tn_aload_n dX10_refresh_144 rfl 0 rfl ?_
            refine tn_aload_n dX10_refresh_145 rfl 2 rfl ?_
            refine tn_callV (M := m_X10_refresh) (pc := 146) (ix := 74) (ci := 10) (M' := m_X10_begin) (As := [.ref c]) (rest := []) dX10_refresh_146 ok_X10_begin im_X10_begin se_X10_begin ml10_74 np_X10_begin rfl rfl ha rfl (Nat.le_of_ble_eq_true rfl) (Nat.le_of_ble_eq_true rfl) rfl (k_X10_begin (d + 2) (T := T) (σ := σ93) (a := a) (p1 := c) ha h_c t_c w96 ) (fun r99 T101 σ100 gt102 hp => ?_)
            obtain ⟨rfl, rfl, w104, F105⟩ := hp
            clear gt102
            show Tn _ _ 149 T σ100 [(0, .ref a), (1, .int (iI r)), (2, .ref c), (4, .int (iI i492))] [] _
            refine tn_aload_n dX10_refresh_149 rfl 0 rfl ?_
            refine tn_iconst dX10_refresh_150 ?_
            refine tn_putV (ci := 10) (i := 6) (n := 94) (r := false) (v := 1) tyX10 tyX10_ok nmX10 dX10_refresh_151 rfl lay_10 (by decide) fl10_78 rfl (tyX10_ok 6 (by decide)) rfl rfl rfl ha rfl rfl ?_
            refine tn_iconst dX10_refresh_154 ?_
            refine tn_istore (L' := [(4, .int (iI 0)), (0, .ref a), (1, .int (iI r)), (2, .ref c)]) dX10_refresh_155 (by decide) rfl ?_
            refine tn_sub [1, 2, 3, 0] rfl (l_X10_refresh_157 (d) (T := T) (σ0 := (sA 94 a (1) σ100)) (a := a) (c1 := r) (rx2 := c) ha (by omega) h_c t_c (w104.put (by decide) (by decide) (fo_94 (by omega))) (fun i4106 σ107 w110 F111 r112 => ?_) _ (0) (sA 94 a (1) σ100) (w104.put (by decide) (by decide) (fo_94 (by omega))) FrC.rfl (by omega) rfl)
            show Tn _ _ 207 T σ107 [(0, .ref a), (1, .int (iI r)), (2, .ref c), (4, .int (iI i4106))] [] _
            refine tn_aload_n dX10_refresh_207 rfl 0 rfl ?_
            refine tn_getR (ci := 10) (i := 1) (n := 89) (x := x7) dX10_refresh_208 rfl lay_10 (by decide) fl10_17 ha rfl rfl (rc_F F111 (Or.inl (by decide)) (by decide) (rc_o (by decide) (rc_F F105 (Or.inl (by decide)) (by decide) (rc_F F97 (Or.inl (by decide)) (by decide) (rc_F F91 (Or.inl (by decide)) (by decide) (rc_o (by decide) (rc_o (by decide) (hx8)))))))) ?_
            refine tn_iload_n dX10_refresh_211 rfl 1 rfl ?_
            refine tn_iconst dX10_refresh_212 ?_
            refine tn_iast (z := r) (v := 1) dX10_refresh_213 hk9i (by omega) (by omega) (by omega) ?_
            exact tn_vret rfl dX10_refresh_214 ⟨rfl, (w110.arr (Or.inl hk9i) (vok_1 (by have q9 := hk9; omega) (by omega))), ((((((((FrC.rfl.put (by decide) (by decide)).put (by decide) (by decide)).trans (FrC.sub F91 (by decide))).trans (FrC.sub F97 (by decide))).trans (FrC.sub F105 (by decide))).put (by decide) (by decide)).trans (FrC.sub F111 (by decide))).arr (hk_no (nh_k hk9 (by unfold HT; omega))))⟩
          · refine tn_aload_n dX10_refresh_85 rfl 1 rfl ?_
            refine tn_getR (ci := 10) (i := 0) (n := 88) (x := x2) dX10_refresh_86 rfl lay_10 (by decide) fl10_11 ha rfl rfl (rc_o (by decide) (hx3)) ?_
            refine tn_iload_n dX10_refresh_89 rfl 2 rfl ?_
            refine tn_iload_n dX10_refresh_90 rfl 0 rfl ?_
            refine tn_iload_n dX10_refresh_91 rfl 0 rfl ?_
            refine tn_bipush dX10_refresh_92 (by decide) ?_
            refine tn_idivX dX10_refresh_94 (by decide) ?_
            obtain ⟨z113, g114, g114e⟩ := div8 (x := z26) (by omega) (by omega)
            rw [g114e]
            refine tn_iadd dX10_refresh_95 ?_
            obtain ⟨N115, N115e⟩ : ∃ N : Nat, z26 + z113 = (N : Int) := ⟨(z26 + z113).toNat, by omega⟩
            have ol128 : tLen T (sA 93 a (v22) σ) (r) = (T x29).2 := tLen_at (rc_o (by decide) (hx28))
            refine tn_newI (N := N115) (k := 1) dX10_refresh_96 arC_int (Or.inl rfl) N115e (by omega) (fun x116 hx117 => ?_)
            have w122 := WT.tab (T := T) (σ := (sA 93 a (v22) σ)) (hw.put (by decide) (by decide) (fo_93 (by omega))) hx117 (r := r) ⟨by omega, by omega⟩ (N := N115) (by omega) (by omega) (by omega) (by omega)
            have gt123 : GT T (tT T x116 1 N115) := fun b p _ => tT_gt hx117 b p
            have l126 : (tT T x116 1 N115 x116) = (1, N115) := tT_eq
            have F124 : FrC T [92, 93, 94, 900] σ (sA 900 (r) (x116 : Int) (rowS (1000 + x116) (fun _ => 0) (gh N115 (sA 93 a (v22) σ)))) := FrC.put9 (FrC.row (FrC.gh (FrC.rfl.put (by decide) (by decide))) (hk_no (by unfold NH HT; omega))) (by decide)
            have q125 : (sA 900 (r) (x116 : Int) (rowS (1000 + x116) (fun _ => 0) (gh N115 (sA 93 a (v22) σ)))).2.1 900 (r) = (x116 : Int) := ra_eq
            have ix127 : IA (tT T x116 1 N115) x116 := by unfold IA; rw [l126]; exact Or.inl rfl
            refine tn_aastM (z := r) (v := x116) (fun b q => (w122).2.2.2.2.1.1 b x2 q (gt123.kk hk4 (by decide) (by decide))) dX10_refresh_98 (gt123.kk hk4 (by decide) (by decide)) ix127 (by omega) (by rw [gt123.lenK hk4 (by decide) (by decide)]; omega) (by rw [gt123.lenK hk4 (by decide) (by decide)]; omega) ?_
            generalize hT120 : tT T x116 1 N115 = T118 at w122 gt123 l126 ix127 ⊢
            generalize h121 : (sA 900 (r) (x116 : Int) (rowS (1000 + x116) (fun _ => 0) (gh N115 (sA 93 a (v22) σ)))) = σ119 at w122 F124 q125 ⊢
            replace ha : OB T118 a 10 := gt123.ob ha
            replace t_c : (T118 c).1 = 50 := gt123.kk t_c (by decide) (by decide)
            replace h_c : OB T118 c 1 := gt123.ob h_c
            have l126k : (T118 x116).1 = 1 := by rw [l126]
            have l126n : (T118 x116).2 = N115 := by rw [l126]
            show Tn _ _ 99 T118 σ119 [(3, .int (iI z26)), (0, .ref a), (1, .int (iI r)), (2, .ref c)] [] _
            refine tn_aload_n dX10_refresh_99 rfl 1 rfl ?_
            refine tn_aload_n dX10_refresh_100 rfl 1 rfl ?_
            obtain ⟨x129, hx130, hk131, hl132⟩ : ∃ x : Nat, σ119.2.1 88 a = (x : Int) ∧ AR T118 x 7 6 6 := wf_88 w122 ha
            refine tn_getR (ci := 10) (i := 0) (n := 88) (x := x129) dX10_refresh_101 rfl lay_10 (by decide) fl10_11 ha rfl rfl (hx130) ?_
            refine tn_iload_n dX10_refresh_104 rfl 2 rfl ?_
            refine tn_aaldM (z := r) (x := x116) dX10_refresh_105 hk131 (by omega) (by omega) (by omega) (q125) ?_
            refine tn_putV (ci := 10) (i := 4) (n := 92) (r := true) (v := (x116 : Int)) tyX10 tyX10_ok nmX10 dX10_refresh_106 rfl lay_10 (by decide) fl10_61 rfl (tyX10_ok 4 (by decide)) (vl_ref rfl).symm rfl rfl ha rfl rfl ?_
            refine tn_aload_n dX10_refresh_109 rfl 1 rfl ?_
            refine tn_getR (ci := 10) (i := 4) (n := 92) (x := x116) dX10_refresh_110 rfl lay_10 (by decide) fl10_61 ha rfl rfl (ra_eq) ?_
            refine tn_iconst dX10_refresh_113 ?_
            refine tn_iload_n dX10_refresh_114 rfl 0 rfl ?_
            refine tn_iconst dX10_refresh_115 ?_
            refine tn_callS (M := m_X10_refresh) (pc := 116) (ix := 64) (M' := m_J7_fill_fda19) (As := [.ref x116, .int (iI 0), .int (iI z26), .int (iI 0)]) (rest := []) dX10_refresh_116 ok_J7_fill_fda19 stt_J7_fill_fda19 ml10_64 np_J7_fill_fda19 rfl (Nat.le_of_ble_eq_true rfl) (Nat.le_of_ble_eq_true rfl) rfl (k_J7_fill_fda19 (d + 2) (T := T118) (σ := (sA 92 a ((x116 : Int)) σ119)) (x := x116) (f := 0) (t := z26) (y := 0) ix127 (by omega) (by decide) (by omega) (by decide) (w122.put (by decide) (by decide) (fo_92 (Or.inr ⟨_, rfl, l126k, by omega, by omega⟩))) (nh_k l126k (by unfold HT; omega)) (by omega) (by omega)) (fun r133 T135 σ134 gt136 hp => ?_)
            obtain ⟨rfl, rfl, w138, F139⟩ := hp
            clear gt136
            show Tn _ _ 119 T118 σ134 [(3, .int (iI z26)), (0, .ref a), (1, .int (iI r)), (2, .ref c)] [] _
            refine tn_iconst dX10_refresh_119 ?_
            refine tn_istore (L' := [(4, .int (iI 0)), (3, .int (iI z26)), (0, .ref a), (1, .int (iI r)), (2, .ref c)]) dX10_refresh_120 (by decide) rfl ?_
            refine tn_sub [2, 3, 4, 0] rfl (l_X10_refresh_122 (d) (T := T118) (σ0 := σ134) (a := a) (c1 := r) (rx2 := c) ha (by omega) h_c t_c w138 (fun i4140 σ141 w144 F145 r146 => ?_) _ (0) σ134 w138 FrC.rfl (by omega) rfl)
            show Tn _ _ 144 T118 σ141 [(0, .ref a), (1, .int (iI r)), (2, .ref c), (4, .int (iI i4140))] [] _
            refine tn_aload_n dX10_refresh_144 rfl 0 rfl ?_
            refine tn_aload_n dX10_refresh_145 rfl 2 rfl ?_
            refine tn_callV (M := m_X10_refresh) (pc := 146) (ix := 74) (ci := 10) (M' := m_X10_begin) (As := [.ref c]) (rest := []) dX10_refresh_146 ok_X10_begin im_X10_begin se_X10_begin ml10_74 np_X10_begin rfl rfl ha rfl (Nat.le_of_ble_eq_true rfl) (Nat.le_of_ble_eq_true rfl) rfl (k_X10_begin (d + 2) (T := T118) (σ := σ141) (a := a) (p1 := c) ha h_c t_c w144 ) (fun r147 T149 σ148 gt150 hp => ?_)
            obtain ⟨rfl, rfl, w152, F153⟩ := hp
            clear gt150
            show Tn _ _ 149 T118 σ148 [(0, .ref a), (1, .int (iI r)), (2, .ref c), (4, .int (iI i4140))] [] _
            refine tn_aload_n dX10_refresh_149 rfl 0 rfl ?_
            refine tn_iconst dX10_refresh_150 ?_
            refine tn_putV (ci := 10) (i := 6) (n := 94) (r := false) (v := 1) tyX10 tyX10_ok nmX10 dX10_refresh_151 rfl lay_10 (by decide) fl10_78 rfl (tyX10_ok 6 (by decide)) rfl rfl rfl ha rfl rfl ?_
            refine tn_iconst dX10_refresh_154 ?_
            refine tn_istore (L' := [(4, .int (iI 0)), (0, .ref a), (1, .int (iI r)), (2, .ref c)]) dX10_refresh_155 (by decide) rfl ?_
            refine tn_sub [1, 2, 3, 0] rfl (l_X10_refresh_157 (d) (T := T118) (σ0 := (sA 94 a (1) σ148)) (a := a) (c1 := r) (rx2 := c) ha (by omega) h_c t_c (w152.put (by decide) (by decide) (fo_94 (by omega))) (fun i4154 σ155 w158 F159 r160 => ?_) _ (0) (sA 94 a (1) σ148) (w152.put (by decide) (by decide) (fo_94 (by omega))) FrC.rfl (by omega) rfl)
            show Tn _ _ 207 T118 σ155 [(0, .ref a), (1, .int (iI r)), (2, .ref c), (4, .int (iI i4154))] [] _
            refine tn_aload_n dX10_refresh_207 rfl 0 rfl ?_
            obtain ⟨x161, hx162, hk163, hl164⟩ : ∃ x : Nat, σ119.2.1 89 a = (x : Int) ∧ AR T118 x 1 6 6 := wf_89 w122 ha
            have hk163i : IA T118 x161 := by unfold IA; omega
            refine tn_getR (ci := 10) (i := 1) (n := 89) (x := x161) dX10_refresh_208 rfl lay_10 (by decide) fl10_17 ha rfl rfl (rc_F F159 (Or.inl (by decide)) (by decide) (rc_o (by decide) (rc_F F153 (Or.inl (by decide)) (by decide) (rc_F F145 (Or.inl (by decide)) (by decide) (rc_F F139 (Or.inl (by decide)) (by decide) (rc_o (by decide) (hx162))))))) ?_
            refine tn_iload_n dX10_refresh_211 rfl 1 rfl ?_
            refine tn_iconst dX10_refresh_212 ?_
            refine tn_iast (z := r) (v := 1) dX10_refresh_213 hk163i (by omega) (by omega) (by omega) ?_
            exact tn_vret rfl dX10_refresh_214 ⟨rfl, (w158.arr (Or.inl hk163i) (vok_1 (by have q9 := hk163; omega) (by omega))), ((((((((FrC.rfl.trans (FrC.sub F124 (by decide))).put (by decide) (by decide)).trans (FrC.sub (FrC.old F139 gt123) (by decide))).trans (FrC.sub (FrC.old F145 gt123) (by decide))).trans (FrC.sub (FrC.old F153 gt123) (by decide))).put (by decide) (by decide)).trans (FrC.sub (FrC.old F159 gt123) (by decide))).arr (hk_no (GT.nh gt123 (nh_k hk163 (by unfold HT; omega)))))⟩
      · exact tn_vret rfl dX10_refresh_35 ⟨rfl, hw, FrC.rfl⟩
