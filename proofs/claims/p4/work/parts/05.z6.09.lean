theorem cd_X11_told : Cond.code yX11_told cX11_told 8 (some .int) ∈ pWW := pw4 (List.mem_of_getElem? (i := 100) rfl) rfl
abbrev m_X11_told : MT := (yX11_told, cX11_told, 8, (some .int))
theorem ok_X11_told : pOk m_X11_told := ⟨⟨cd_X11_told, ini_11⟩, by decide +kernel, ⟨by decide +kernel, by decide +kernel⟩, Nat.le_of_ble_eq_true rfl⟩
theorem np_X11_told : (parseMethodDescriptor yX11_told.desc).map (fun d => d.parameters.length) = some 5 := by decide +kernel
theorem im_X11_told : Cond.instanceMethod yX11_told ∈ pWW := pw4 (List.mem_of_getElem? (i := 98) rfl) rfl
theorem se_X11_told : Cond.selects RX11 yX11_told yX11_told ∈ pWW := pw4 (List.mem_of_getElem? (i := 99) rfl) rfl
theorem ml11_172 : Cond.methodLink RX11 172 yX1_hasName ∈ pWW := pw4 (List.mem_of_getElem? (i := 101) rfl) rfl
theorem fl11_39 : Cond.fieldLink RX11 39 (TX11 7).1 (TX11 7).2.1 (TX11 7).2.2.1 ∈ pWW := pw2 (List.mem_of_getElem? (i := 203) rfl) rfl
theorem ml11_176 : Cond.methodLink RX11 176 yX10_refresh ∈ pWW := pw4 (List.mem_of_getElem? (i := 105) rfl) rfl
theorem ml11_180 : Cond.methodLink RX11 180 yX10_slotAt ∈ pWW := pw4 (List.mem_of_getElem? (i := 160) rfl) rfl
theorem ml11_184 : Cond.methodLink RX11 184 yX10_idIn ∈ pWW := pw4 (List.mem_of_getElem? (i := 164) rfl) rfl
theorem ml11_191 : Cond.methodLink RX11 191 yX10_part ∈ pWW := pw4 (List.mem_of_getElem? (i := 172) rfl) rfl
theorem ml11_187 : Cond.methodLink RX11 187 yX10_whereOf ∈ pWW := pw4 (List.mem_of_getElem? (i := 168) rfl) rfl
theorem dX11_told_0 : decode cX11_told 0 = .ok (.aload_n 0, 1) := by decide +kernel
theorem dX11_told_1 : decode cX11_told 1 = .ok (.iload_n 1, 1) := by decide +kernel
theorem dX11_told_2 : decode cX11_told 2 = .ok (.invokevirtual 123, 3) := by decide +kernel
theorem dX11_told_5 : decode cX11_told 5 = .ok (.astore 6, 2) := by decide +kernel
theorem dX11_told_7 : decode cX11_told 7 = .ok (.aload 6, 2) := by decide +kernel
theorem dX11_told_9 : decode cX11_told 9 = .ok (.ifnull 38, 3) := by decide +kernel
theorem dX11_told_47 : decode cX11_told 47 = .ok (.iconst (-1), 1) := by decide +kernel
theorem dX11_told_48 : decode cX11_told 48 = .ok (.ireturn, 1) := by decide +kernel
theorem dX11_told_12 : decode cX11_told 12 = .ok (.iload_n 2, 1) := by decide +kernel
theorem dX11_told_13 : decode cX11_told 13 = .ok (.ifCond .lt 34, 3) := by decide +kernel
theorem dX11_told_16 : decode cX11_told 16 = .ok (.iload_n 2, 1) := by decide +kernel
theorem dX11_told_17 : decode cX11_told 17 = .ok (.aload 6, 2) := by decide +kernel
theorem dX11_told_19 : decode cX11_told 19 = .ok (.getfield 127, 3) := by decide +kernel
theorem dX11_told_22 : decode cX11_told 22 = .ok (.if_icmp .gt 25, 3) := by decide +kernel
theorem dX11_told_25 : decode cX11_told 25 = .ok (.aload 6, 2) := by decide +kernel
theorem dX11_told_27 : decode cX11_told 27 = .ok (.iload_n 3, 1) := by decide +kernel
theorem dX11_told_28 : decode cX11_told 28 = .ok (.iload 4, 2) := by decide +kernel
theorem dX11_told_30 : decode cX11_told 30 = .ok (.invokevirtual 172, 3) := by decide +kernel
theorem dX11_told_33 : decode cX11_told 33 = .ok (.ifCond .eq 14, 3) := by decide +kernel
theorem dX11_told_36 : decode cX11_told 36 = .ok (.iload 5, 2) := by decide +kernel
theorem dX11_told_38 : decode cX11_told 38 = .ok (.ifCond .lt 9, 3) := by decide +kernel
theorem dX11_told_41 : decode cX11_told 41 = .ok (.iload 5, 2) := by decide +kernel
theorem dX11_told_43 : decode cX11_told 43 = .ok (.iconst 4, 1) := by decide +kernel
theorem dX11_told_44 : decode cX11_told 44 = .ok (.if_icmp .le 5, 3) := by decide +kernel
theorem dX11_told_49 : decode cX11_told 49 = .ok (.aload_n 0, 1) := by decide +kernel
theorem dX11_told_50 : decode cX11_told 50 = .ok (.getfield 39, 3) := by decide +kernel
theorem dX11_told_53 : decode cX11_told 53 = .ok (.iload_n 1, 1) := by decide +kernel
theorem dX11_told_54 : decode cX11_told 54 = .ok (.aload 6, 2) := by decide +kernel
theorem dX11_told_56 : decode cX11_told 56 = .ok (.invokevirtual 176, 3) := by decide +kernel
theorem dX11_told_59 : decode cX11_told 59 = .ok (.aload_n 0, 1) := by decide +kernel
theorem dX11_told_60 : decode cX11_told 60 = .ok (.getfield 39, 3) := by decide +kernel
theorem dX11_told_63 : decode cX11_told 63 = .ok (.iload_n 1, 1) := by decide +kernel
theorem dX11_told_64 : decode cX11_told 64 = .ok (.aload_n 0, 1) := by decide +kernel
theorem dX11_told_65 : decode cX11_told 65 = .ok (.getfield 39, 3) := by decide +kernel
theorem dX11_told_68 : decode cX11_told 68 = .ok (.aload 6, 2) := by decide +kernel
theorem dX11_told_70 : decode cX11_told 70 = .ok (.iload_n 2, 1) := by decide +kernel
theorem dX11_told_71 : decode cX11_told 71 = .ok (.iload_n 3, 1) := by decide +kernel
theorem dX11_told_72 : decode cX11_told 72 = .ok (.invokevirtual 180, 3) := by decide +kernel
theorem dX11_told_75 : decode cX11_told 75 = .ok (.iload 4, 2) := by decide +kernel
theorem dX11_told_77 : decode cX11_told 77 = .ok (.iadd, 1) := by decide +kernel
theorem dX11_told_78 : decode cX11_told 78 = .ok (.invokevirtual 184, 3) := by decide +kernel
theorem dX11_told_81 : decode cX11_told 81 = .ok (.istore 7, 2) := by decide +kernel
theorem dX11_told_83 : decode cX11_told 83 = .ok (.iload 5, 2) := by decide +kernel
theorem dX11_told_85 : decode cX11_told 85 = .ok (.tableswitch 82 0 3 #[31, 43, 56, 69], 31) := by decide +kernel
theorem dX11_told_167 : decode cX11_told 167 = .ok (.aload_n 0, 1) := by decide +kernel
theorem dX11_told_168 : decode cX11_told 168 = .ok (.getfield 39, 3) := by decide +kernel
theorem dX11_told_171 : decode cX11_told 171 = .ok (.aload 6, 2) := by decide +kernel
theorem dX11_told_173 : decode cX11_told 173 = .ok (.iload 7, 2) := by decide +kernel
theorem dX11_told_175 : decode cX11_told 175 = .ok (.bipush 6, 2) := by decide +kernel
theorem dX11_told_177 : decode cX11_told 177 = .ok (.invokevirtual 191, 3) := by decide +kernel
theorem dX11_told_180 : decode cX11_told 180 = .ok (.ireturn, 1) := by decide +kernel
theorem dX11_told_116 : decode cX11_told 116 = .ok (.aload_n 0, 1) := by decide +kernel
theorem dX11_told_117 : decode cX11_told 117 = .ok (.getfield 39, 3) := by decide +kernel
theorem dX11_told_120 : decode cX11_told 120 = .ok (.aload 6, 2) := by decide +kernel
theorem dX11_told_122 : decode cX11_told 122 = .ok (.iload 7, 2) := by decide +kernel
theorem dX11_told_124 : decode cX11_told 124 = .ok (.invokevirtual 187, 3) := by decide +kernel
theorem dX11_told_127 : decode cX11_told 127 = .ok (.ireturn, 1) := by decide +kernel
theorem dX11_told_128 : decode cX11_told 128 = .ok (.aload_n 0, 1) := by decide +kernel
theorem dX11_told_129 : decode cX11_told 129 = .ok (.getfield 39, 3) := by decide +kernel
theorem dX11_told_132 : decode cX11_told 132 = .ok (.aload 6, 2) := by decide +kernel
theorem dX11_told_134 : decode cX11_told 134 = .ok (.iload 7, 2) := by decide +kernel
theorem dX11_told_136 : decode cX11_told 136 = .ok (.iconst 3, 1) := by decide +kernel
theorem dX11_told_137 : decode cX11_told 137 = .ok (.invokevirtual 191, 3) := by decide +kernel
theorem dX11_told_140 : decode cX11_told 140 = .ok (.ireturn, 1) := by decide +kernel
theorem dX11_told_141 : decode cX11_told 141 = .ok (.aload_n 0, 1) := by decide +kernel
theorem dX11_told_142 : decode cX11_told 142 = .ok (.getfield 39, 3) := by decide +kernel
theorem dX11_told_145 : decode cX11_told 145 = .ok (.aload 6, 2) := by decide +kernel
theorem dX11_told_147 : decode cX11_told 147 = .ok (.iload 7, 2) := by decide +kernel
theorem dX11_told_149 : decode cX11_told 149 = .ok (.iconst 5, 1) := by decide +kernel
theorem dX11_told_150 : decode cX11_told 150 = .ok (.invokevirtual 191, 3) := by decide +kernel
theorem dX11_told_153 : decode cX11_told 153 = .ok (.ireturn, 1) := by decide +kernel
theorem dX11_told_154 : decode cX11_told 154 = .ok (.aload_n 0, 1) := by decide +kernel
theorem dX11_told_155 : decode cX11_told 155 = .ok (.getfield 39, 3) := by decide +kernel
theorem dX11_told_158 : decode cX11_told 158 = .ok (.aload 6, 2) := by decide +kernel
theorem dX11_told_160 : decode cX11_told 160 = .ok (.iload 7, 2) := by decide +kernel
theorem dX11_told_162 : decode cX11_told 162 = .ok (.iconst 4, 1) := by decide +kernel
theorem dX11_told_163 : decode cX11_told 163 = .ok (.invokevirtual 191, 3) := by decide +kernel
theorem dX11_told_166 : decode cX11_told 166 = .ok (.ireturn, 1) := by decide +kernel
set_option maxRecDepth 20000 in
theorem k_X11_told (d : Nat) {T : CT} {σ : MS} {a : Nat} {r : Int} {k : Int} {f : Int} {m : Int} {w : Int} (ha : OB T a 11) (h_r : -2147483648 ≤ r ∧ r ≤ 2147483647) (h_k : -2147483648 ≤ k ∧ k ≤ 2147483647) (h_f : -2147483648 ≤ f ∧ f ≤ 2147483647) (h_m : -2147483648 ≤ m ∧ m ≤ 2147483647) (h_w : -2147483648 ≤ w ∧ w ≤ 2147483647) (hw : WT T σ) : Tn (d + 6) m_X11_told 0 T σ [(0, .ref a), (1, .int (iI r)), (2, .int (iI k)), (3, .int (iI f)), (4, .int (iI m)), (5, .int (iI w))] [] (fun ro T2 σ2 => ∃ v : Int, ro = some (.int (iI v)) ∧ WT T2 σ2 ∧ FrC T [92, 93, 94, 900] σ σ2 ∧ (-2147483648 ≤ v ∧ v ≤ 2147483647)) := by
  refine tn_aload_n dX11_told_0 rfl 0 rfl ?_
  refine tn_iload_n dX11_told_1 rfl 1 rfl ?_
  refine tn_callV (M := m_X11_told) (pc := 2) (ix := 123) (ci := 11) (M' := m_X11_codeOf) (As := [.int (iI r)]) (rest := []) dX11_told_2 ok_X11_codeOf im_X11_codeOf se_X11_codeOf ml11_123 np_X11_codeOf rfl rfl ha rfl (Nat.le_of_ble_eq_true rfl) (Nat.le_of_ble_eq_true rfl) rfl (k_X11_codeOf (d + 4) (T := T) (σ := σ) (a := a) (r := r) ha (by omega) hw ) (fun r1 T3 σ2 gt4 hp => ?_)
  obtain ⟨v5, rfl, rfl, rfl, rv6⟩ := hp
  clear gt4
  rcases rv6 with rv6 | ⟨x7, rfl, hk8⟩
  · show Tn _ _ 5 T σ [(0, .ref a), (1, .int (iI r)), (2, .int (iI k)), (3, .int (iI f)), (4, .int (iI m)), (5, .int (iI w))] (vl true v5 :: []) _
    rw [vl_null rv6]
    refine tn_astoreN (L' := [(6, .null), (0, .ref a), (1, .int (iI r)), (2, .int (iI k)), (3, .int (iI f)), (4, .int (iI m)), (5, .int (iI w))]) dX11_told_5 (by decide) rfl ?_
    refine tn_aloadN dX11_told_7 0 rfl ?_
    refine tn_ifnullN (tgt := 47) dX11_told_9 (by decide) ?_
    refine tn_iconst dX11_told_47 ?_
    exact tn_iret rfl dX11_told_48 ⟨_, rfl, hw, FrC.rfl, by omega⟩
  · show Tn _ _ 5 T σ [(0, .ref a), (1, .int (iI r)), (2, .int (iI k)), (3, .int (iI f)), (4, .int (iI m)), (5, .int (iI w))] (vl true (x7 : Int) :: []) _
    rw [vl_ref rfl]
    have hk8o : OB T x7 1 := ⟨by omega, by rw [hk8]; rfl, by omega⟩
    refine tn_astore (L' := [(6, .ref x7), (0, .ref a), (1, .int (iI r)), (2, .int (iI k)), (3, .int (iI f)), (4, .int (iI m)), (5, .int (iI w))]) dX11_told_5 (by decide) rfl ?_
    refine tn_aload dX11_told_7 0 rfl ?_
    refine tn_ifnull dX11_told_9 ?_
    refine tn_iload_n dX11_told_12 rfl 3 rfl ?_
    refine tn_if_lt (tgt := 47) dX11_told_13 (by decide) ⟨by omega, by omega⟩ (fun h9 => ?_) (fun h9 => ?_)
    · refine tn_iconst dX11_told_47 ?_
      exact tn_iret rfl dX11_told_48 ⟨_, rfl, hw, FrC.rfl, by omega⟩
    · refine tn_iload_n dX11_told_16 rfl 3 rfl ?_
      refine tn_aload dX11_told_17 0 rfl ?_
      refine tn_getI (ci := 1) (i := 1) (n := 6) (t := σ.2.1 6 x7) dX11_told_19 rfl lay_1 (by decide) fl11_127 hk8o rfl rfl (rfl) ?_
      have g10 : ((0 : Int) ≤ σ.2.1 6 x7 ∧ σ.2.1 6 x7 ≤ 5000) ∧ ((T x7).1 = 50 → σ.2.1 6 x7 ≤ 200) := wf_6 hw hk8o
      have g10x := g10.2
      replace g10 := g10.1
      have g10x := g10x hk8
      refine tn_icmp_gt (tgt := 47) dX11_told_22 (by decide) ⟨by omega, by omega⟩ ⟨by omega, by omega⟩ (fun h11 => ?_) (fun h11 => ?_)
      · refine tn_iconst dX11_told_47 ?_
        exact tn_iret rfl dX11_told_48 ⟨_, rfl, hw, FrC.rfl, by omega⟩
      · refine tn_aload dX11_told_25 0 rfl ?_
        refine tn_iload_n dX11_told_27 rfl 4 rfl ?_
        refine tn_iload dX11_told_28 5 rfl ?_
        refine tn_callV (M := m_X11_told) (pc := 30) (ix := 172) (ci := 1) (M' := m_X1_hasName) (As := [.int (iI f), .int (iI m)]) (rest := []) dX11_told_30 ok_X1_hasName im_X1_hasName se_X1_hasName ml11_172 np_X1_hasName rfl rfl hk8o rfl (Nat.le_of_ble_eq_true rfl) (Nat.le_of_ble_eq_true rfl) rfl (k_X1_hasName (d + 3) (T := T) (σ := σ) (a := x7) (f := f) (m := m) hk8o (by omega) (by omega) hw ) (fun r12 T14 σ13 gt15 hp => ?_)
        obtain ⟨v17, rfl, rfl, rfl, f16⟩ := hp
        clear gt15
        show Tn _ _ 33 T σ [(6, .ref x7), (0, .ref a), (1, .int (iI r)), (2, .int (iI k)), (3, .int (iI f)), (4, .int (iI m)), (5, .int (iI w))] [.int (iI v17)] _
        refine tn_if_eq (tgt := 47) dX11_told_33 (by decide) ⟨by omega, by omega⟩ (fun h18 => ?_) (fun h18 => ?_)
        · refine tn_iconst dX11_told_47 ?_
          exact tn_iret rfl dX11_told_48 ⟨_, rfl, hw, FrC.rfl, by omega⟩
        · refine tn_iload dX11_told_36 6 rfl ?_
          refine tn_if_lt (tgt := 47) dX11_told_38 (by decide) ⟨by omega, by omega⟩ (fun h19 => ?_) (fun h19 => ?_)
          · refine tn_iconst dX11_told_47 ?_
            exact tn_iret rfl dX11_told_48 ⟨_, rfl, hw, FrC.rfl, by omega⟩
          · refine tn_iload dX11_told_41 6 rfl ?_
            refine tn_iconst dX11_told_43 ?_
            refine tn_icmp_le (tgt := 49) dX11_told_44 (by decide) ⟨by omega, by omega⟩ ⟨by decide, by decide⟩ (fun h20 => ?_) (fun h20 => ?_)
            · refine tn_aload_n dX11_told_49 rfl 1 rfl ?_
              obtain ⟨x21, hx22, hk23⟩ : ∃ x : Nat, σ.2.1 102 a = (x : Int) ∧ (T x).1 = 40 := wf_102 hw ha
              have hk23o : OB T x21 10 := ⟨by omega, by rw [hk23]; rfl, by omega⟩
              refine tn_getR (ci := 11) (i := 7) (n := 102) (x := x21) dX11_told_50 rfl lay_11 (by decide) fl11_39 ha rfl rfl (hx22) ?_
              refine tn_iload_n dX11_told_53 rfl 2 rfl ?_
              refine tn_aload dX11_told_54 0 rfl ?_
              refine tn_callV (M := m_X11_told) (pc := 56) (ix := 176) (ci := 10) (M' := m_X10_refresh) (As := [.int (iI r), .ref x7]) (rest := []) dX11_told_56 ok_X10_refresh im_X10_refresh se_X10_refresh ml11_176 np_X10_refresh rfl rfl hk23o rfl (Nat.le_of_ble_eq_true rfl) (Nat.le_of_ble_eq_true rfl) rfl (k_X10_refresh (d) (T := T) (σ := σ) (a := x21) (r := r) (c := x7) hk23o (by omega) hk8o hk8 hw ) (fun r25 T27 σ26 gt28 hp => ?_)
              obtain ⟨rfl, w30, F31⟩ := hp
              replace ha : OB T27 a 11 := gt28.ob ha
              replace hk8o : OB T27 x7 1 := gt28.ob hk8o
              replace hk8 : (T27 x7).1 = 50 := gt28.kk hk8 (by decide) (by decide)
              show Tn _ _ 59 T27 σ26 [(6, .ref x7), (0, .ref a), (1, .int (iI r)), (2, .int (iI k)), (3, .int (iI f)), (4, .int (iI m)), (5, .int (iI w))] [] _
              refine tn_aload_n dX11_told_59 rfl 1 rfl ?_
              obtain ⟨x32, hx33, hk34⟩ : ∃ x : Nat, σ26.2.1 102 a = (x : Int) ∧ (T27 x).1 = 40 := wf_102 w30 ha
              have hk34o : OB T27 x32 10 := ⟨by omega, by rw [hk34]; rfl, by omega⟩
              refine tn_getR (ci := 11) (i := 7) (n := 102) (x := x32) dX11_told_60 rfl lay_11 (by decide) fl11_39 ha rfl rfl (hx33) ?_
              refine tn_iload_n dX11_told_63 rfl 2 rfl ?_
              refine tn_aload_n dX11_told_64 rfl 1 rfl ?_
              refine tn_getR (ci := 11) (i := 7) (n := 102) (x := x32) dX11_told_65 rfl lay_11 (by decide) fl11_39 ha rfl rfl (hx33) ?_
              refine tn_aload dX11_told_68 0 rfl ?_
              refine tn_iload_n dX11_told_70 rfl 3 rfl ?_
              refine tn_iload_n dX11_told_71 rfl 4 rfl ?_
              refine tn_callV (M := m_X11_told) (pc := 72) (ix := 180) (ci := 10) (M' := m_X10_slotAt) (As := [.ref x7, .int (iI k), .int (iI f)]) (rest := [.int (iI r), .ref x32]) dX11_told_72 ok_X10_slotAt im_X10_slotAt se_X10_slotAt ml11_180 np_X10_slotAt rfl rfl hk34o rfl (Nat.le_of_ble_eq_true rfl) (Nat.le_of_ble_eq_true rfl) rfl (k_X10_slotAt (d + 3) (T := T27) (σ := σ26) (a := x32) (c := x7) (k := k) (f := f) hk34o hk8o (by omega) (by omega) w30 ) (fun r36 T38 σ37 gt39 hp => ?_)
              obtain ⟨v41, rfl, rfl, rfl, f40⟩ := hp
              clear gt39
              show Tn _ _ 75 T27 σ26 [(6, .ref x7), (0, .ref a), (1, .int (iI r)), (2, .int (iI k)), (3, .int (iI f)), (4, .int (iI m)), (5, .int (iI w))] [.int (iI v41), .int (iI r), .ref x32] _
              refine tn_iload dX11_told_75 5 rfl ?_
              refine tn_iadd dX11_told_77 ?_
              refine tn_any (fun z42 g43 => ?_)
              have g43r : -2147483648 ≤ z42 ∧ z42 ≤ 2147483647 := g43
              refine tn_callV (M := m_X11_told) (pc := 78) (ix := 184) (ci := 10) (M' := m_X10_idIn) (As := [.int (iI r), .int (iI z42)]) (rest := []) dX11_told_78 ok_X10_idIn im_X10_idIn se_X10_idIn ml11_184 np_X10_idIn rfl rfl hk34o rfl (Nat.le_of_ble_eq_true rfl) (Nat.le_of_ble_eq_true rfl) rfl (k_X10_idIn (d + 3) (T := T27) (σ := σ26) (a := x32) (p1 := r) (p2 := z42) hk34o (by omega) (by omega) w30 ) (fun r44 T46 σ45 gt47 hp => ?_)
              obtain ⟨v49, rfl, rfl, rfl, f48⟩ := hp
              clear gt47
              show Tn _ _ 81 T27 σ26 [(6, .ref x7), (0, .ref a), (1, .int (iI r)), (2, .int (iI k)), (3, .int (iI f)), (4, .int (iI m)), (5, .int (iI w))] [.int (iI v49)] _
              refine tn_istore (L' := [(7, .int (iI v49)), (6, .ref x7), (0, .ref a), (1, .int (iI r)), (2, .int (iI k)), (3, .int (iI f)), (4, .int (iI m)), (5, .int (iI w))]) dX11_told_81 (by decide) rfl ?_
              refine tn_iload dX11_told_83 7 rfl ?_
              by_cases h50 : w < 0 ∨ 3 < w
              · refine tn_tableOut (tgt := 167) dX11_told_85 (x := w) ⟨by omega, by omega⟩ h50 (by decide) ?_
                refine tn_aload_n dX11_told_167 rfl 2 rfl ?_
                refine tn_getR (ci := 11) (i := 7) (n := 102) (x := x32) dX11_told_168 rfl lay_11 (by decide) fl11_39 ha rfl rfl (hx33) ?_
                refine tn_aload dX11_told_171 1 rfl ?_
                refine tn_iload dX11_told_173 0 rfl ?_
                refine tn_bipush dX11_told_175 (by decide) ?_
                refine tn_callV (M := m_X11_told) (pc := 177) (ix := 191) (ci := 10) (M' := m_X10_part) (As := [.ref x7, .int (iI v49), .int (iI 6)]) (rest := []) dX11_told_177 ok_X10_part im_X10_part se_X10_part ml11_191 np_X10_part rfl rfl hk34o rfl (Nat.le_of_ble_eq_true rfl) (Nat.le_of_ble_eq_true rfl) rfl (k_X10_part (d + 2) (T := T27) (σ := σ26) (a := x32) (c := x7) (i := v49) (e := 6) hk34o hk8o (by omega) (by decide) w30 (by omega)) (fun r51 T53 σ52 gt54 hp => ?_)
                obtain ⟨v56, rfl, rfl, rfl, f55⟩ := hp
                clear gt54
                show Tn _ _ 180 T27 σ26 [(7, .int (iI v49)), (6, .ref x7), (0, .ref a), (1, .int (iI r)), (2, .int (iI k)), (3, .int (iI f)), (4, .int (iI m)), (5, .int (iI w))] [.int (iI v56)] _
                exact tn_iret rfl dX11_told_180 ⟨_, rfl, w30, (FrC.rfl.trans (FrC.sub F31 (by decide))), by omega⟩
              · have h57 : w = 0 ∨ w = 1 ∨ w = 2 ∨ w = 3 := by omega
                rcases h57 with h57 | h57 | h57 | h57
                · refine tn_tableIn (tgt := 116) (off := 31) dX11_told_85 (x := w) ⟨by omega, by omega⟩ (by omega) (by omega) (by rw [h57]; rfl) (by decide) ?_
                  refine tn_aload_n dX11_told_116 rfl 2 rfl ?_
                  refine tn_getR (ci := 11) (i := 7) (n := 102) (x := x32) dX11_told_117 rfl lay_11 (by decide) fl11_39 ha rfl rfl (hx33) ?_
                  refine tn_aload dX11_told_120 1 rfl ?_
                  refine tn_iload dX11_told_122 0 rfl ?_
                  refine tn_callV (M := m_X11_told) (pc := 124) (ix := 187) (ci := 10) (M' := m_X10_whereOf) (As := [.ref x7, .int (iI v49)]) (rest := []) dX11_told_124 ok_X10_whereOf im_X10_whereOf se_X10_whereOf ml11_187 np_X10_whereOf rfl rfl hk34o rfl (Nat.le_of_ble_eq_true rfl) (Nat.le_of_ble_eq_true rfl) rfl (k_X10_whereOf (d + 3) (T := T27) (σ := σ26) (a := x32) (c := x7) (i := v49) hk34o hk8o (by omega) w30 ) (fun r58 T60 σ59 gt61 hp => ?_)
                  obtain ⟨v63, rfl, rfl, rfl, f62⟩ := hp
                  clear gt61
                  show Tn _ _ 127 T27 σ26 [(7, .int (iI v49)), (6, .ref x7), (0, .ref a), (1, .int (iI r)), (2, .int (iI k)), (3, .int (iI f)), (4, .int (iI m)), (5, .int (iI w))] [.int (iI v63)] _
                  exact tn_iret rfl dX11_told_127 ⟨_, rfl, w30, (FrC.rfl.trans (FrC.sub F31 (by decide))), by omega⟩
                · refine tn_tableIn (tgt := 128) (off := 43) dX11_told_85 (x := w) ⟨by omega, by omega⟩ (by omega) (by omega) (by rw [h57]; rfl) (by decide) ?_
                  refine tn_aload_n dX11_told_128 rfl 2 rfl ?_
                  refine tn_getR (ci := 11) (i := 7) (n := 102) (x := x32) dX11_told_129 rfl lay_11 (by decide) fl11_39 ha rfl rfl (hx33) ?_
                  refine tn_aload dX11_told_132 1 rfl ?_
                  refine tn_iload dX11_told_134 0 rfl ?_
                  refine tn_iconst dX11_told_136 ?_
                  refine tn_callV (M := m_X11_told) (pc := 137) (ix := 191) (ci := 10) (M' := m_X10_part) (As := [.ref x7, .int (iI v49), .int (iI 3)]) (rest := []) dX11_told_137 ok_X10_part im_X10_part se_X10_part ml11_191 np_X10_part rfl rfl hk34o rfl (Nat.le_of_ble_eq_true rfl) (Nat.le_of_ble_eq_true rfl) rfl (k_X10_part (d + 2) (T := T27) (σ := σ26) (a := x32) (c := x7) (i := v49) (e := 3) hk34o hk8o (by omega) (by decide) w30 (by omega)) (fun r64 T66 σ65 gt67 hp => ?_)
                  obtain ⟨v69, rfl, rfl, rfl, f68⟩ := hp
                  clear gt67
                  show Tn _ _ 140 T27 σ26 [(7, .int (iI v49)), (6, .ref x7), (0, .ref a), (1, .int (iI r)), (2, .int (iI k)), (3, .int (iI f)), (4, .int (iI m)), (5, .int (iI w))] [.int (iI v69)] _
                  exact tn_iret rfl dX11_told_140 ⟨_, rfl, w30, (FrC.rfl.trans (FrC.sub F31 (by decide))), by omega⟩
                · refine tn_tableIn (tgt := 141) (off := 56) dX11_told_85 (x := w) ⟨by omega, by omega⟩ (by omega) (by omega) (by rw [h57]; rfl) (by decide) ?_
                  refine tn_aload_n dX11_told_141 rfl 2 rfl ?_
                  refine tn_getR (ci := 11) (i := 7) (n := 102) (x := x32) dX11_told_142 rfl lay_11 (by decide) fl11_39 ha rfl rfl (hx33) ?_
                  refine tn_aload dX11_told_145 1 rfl ?_
                  refine tn_iload dX11_told_147 0 rfl ?_
                  refine tn_iconst dX11_told_149 ?_
                  refine tn_callV (M := m_X11_told) (pc := 150) (ix := 191) (ci := 10) (M' := m_X10_part) (As := [.ref x7, .int (iI v49), .int (iI 5)]) (rest := []) dX11_told_150 ok_X10_part im_X10_part se_X10_part ml11_191 np_X10_part rfl rfl hk34o rfl (Nat.le_of_ble_eq_true rfl) (Nat.le_of_ble_eq_true rfl) rfl (k_X10_part (d + 2) (T := T27) (σ := σ26) (a := x32) (c := x7) (i := v49) (e := 5) hk34o hk8o (by omega) (by decide) w30 (by omega)) (fun r70 T72 σ71 gt73 hp => ?_)
                  obtain ⟨v75, rfl, rfl, rfl, f74⟩ := hp
                  clear gt73
                  show Tn _ _ 153 T27 σ26 [(7, .int (iI v49)), (6, .ref x7), (0, .ref a), (1, .int (iI r)), (2, .int (iI k)), (3, .int (iI f)), (4, .int (iI m)), (5, .int (iI w))] [.int (iI v75)] _
                  exact tn_iret rfl dX11_told_153 ⟨_, rfl, w30, (FrC.rfl.trans (FrC.sub F31 (by decide))), by omega⟩
                · refine tn_tableIn (tgt := 154) (off := 69) dX11_told_85 (x := w) ⟨by omega, by omega⟩ (by omega) (by omega) (by rw [h57]; rfl) (by decide) ?_
                  refine tn_aload_n dX11_told_154 rfl 2 rfl ?_
                  refine tn_getR (ci := 11) (i := 7) (n := 102) (x := x32) dX11_told_155 rfl lay_11 (by decide) fl11_39 ha rfl rfl (hx33) ?_
                  refine tn_aload dX11_told_158 1 rfl ?_
                  refine tn_iload dX11_told_160 0 rfl ?_
                  refine tn_iconst dX11_told_162 ?_
                  refine tn_callV (M := m_X11_told) (pc := 163) (ix := 191) (ci := 10) (M' := m_X10_part) (As := [.ref x7, .int (iI v49), .int (iI 4)]) (rest := []) dX11_told_163 ok_X10_part im_X10_part se_X10_part ml11_191 np_X10_part rfl rfl hk34o rfl (Nat.le_of_ble_eq_true rfl) (Nat.le_of_ble_eq_true rfl) rfl (k_X10_part (d + 2) (T := T27) (σ := σ26) (a := x32) (c := x7) (i := v49) (e := 4) hk34o hk8o (by omega) (by decide) w30 (by omega)) (fun r76 T78 σ77 gt79 hp => ?_)
                  obtain ⟨v81, rfl, rfl, rfl, f80⟩ := hp
                  clear gt79
                  show Tn _ _ 166 T27 σ26 [(7, .int (iI v49)), (6, .ref x7), (0, .ref a), (1, .int (iI r)), (2, .int (iI k)), (3, .int (iI f)), (4, .int (iI m)), (5, .int (iI w))] [.int (iI v81)] _
                  exact tn_iret rfl dX11_told_166 ⟨_, rfl, w30, (FrC.rfl.trans (FrC.sub F31 (by decide))), by omega⟩
            · refine tn_iconst dX11_told_47 ?_
              exact tn_iret rfl dX11_told_48 ⟨_, rfl, hw, FrC.rfl, by omega⟩
