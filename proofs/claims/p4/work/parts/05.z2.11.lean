theorem cd_X4_meltAt : Cond.code yX4_meltAt cX4_meltAt 4 (some .boolean) ∈ pWW := pw5 (List.mem_of_getElem? (i := 144) rfl) rfl
abbrev m_X4_meltAt : MT := (yX4_meltAt, cX4_meltAt, 4, (some .boolean))
theorem ok_X4_meltAt : pOk m_X4_meltAt := ⟨⟨cd_X4_meltAt, ini_4⟩, by decide +kernel, ⟨by decide +kernel, by decide +kernel⟩, Nat.le_of_ble_eq_true rfl⟩
theorem np_X4_meltAt : (parseMethodDescriptor yX4_meltAt.desc).map (fun d => d.parameters.length) = some 1 := by decide +kernel
theorem im_X4_meltAt : Cond.instanceMethod yX4_meltAt ∈ pWW := pw5 (List.mem_of_getElem? (i := 143) rfl) rfl
theorem se_X4_meltAt : Cond.selects RX4 yX4_meltAt yX4_meltAt ∈ pWW := pws (List.mem_map.mpr ⟨_, lw_pin 65 rfl, rfl⟩) rfl
theorem ml4_48 : Cond.methodLink RX4 48 yX3_findLiving ∈ pWW := pw5 (List.mem_of_getElem? (i := 145) rfl) rfl
theorem ml4_54 : Cond.methodLink RX4 54 yX1_registers ∈ pWW := pw5 (List.mem_of_getElem? (i := 146) rfl) rfl
theorem ml4_60 : Cond.methodLink RX4 60 yX1_greatestLabel ∈ pWW := pw5 (List.mem_of_getElem? (i := 147) rfl) rfl
theorem ml4_75 : Cond.methodLink RX4 75 yX4_rowsNeeded ∈ pWW := pw5 (List.mem_of_getElem? (i := 151) rfl) rfl
theorem dX4_meltAt_0 : decode cX4_meltAt 0 = .ok (.aload_n 0, 1) := by decide +kernel
theorem dX4_meltAt_1 : decode cX4_meltAt 1 = .ok (.getfield 15, 3) := by decide +kernel
theorem dX4_meltAt_4 : decode cX4_meltAt 4 = .ok (.aload_n 0, 1) := by decide +kernel
theorem dX4_meltAt_5 : decode cX4_meltAt 5 = .ok (.getfield 33, 3) := by decide +kernel
theorem dX4_meltAt_8 : decode cX4_meltAt 8 = .ok (.invokevirtual 48, 3) := by decide +kernel
theorem dX4_meltAt_11 : decode cX4_meltAt 11 = .ok (.aload_n 0, 1) := by decide +kernel
theorem dX4_meltAt_12 : decode cX4_meltAt 12 = .ok (.aload_n 0, 1) := by decide +kernel
theorem dX4_meltAt_13 : decode cX4_meltAt 13 = .ok (.getfield 19, 3) := by decide +kernel
theorem dX4_meltAt_16 : decode cX4_meltAt 16 = .ok (.invokevirtual 54, 3) := by decide +kernel
theorem dX4_meltAt_19 : decode cX4_meltAt 19 = .ok (.putfield 57, 3) := by decide +kernel
theorem dX4_meltAt_22 : decode cX4_meltAt 22 = .ok (.aload_n 0, 1) := by decide +kernel
theorem dX4_meltAt_23 : decode cX4_meltAt 23 = .ok (.aload_n 0, 1) := by decide +kernel
theorem dX4_meltAt_24 : decode cX4_meltAt 24 = .ok (.getfield 19, 3) := by decide +kernel
theorem dX4_meltAt_27 : decode cX4_meltAt 27 = .ok (.invokevirtual 60, 3) := by decide +kernel
theorem dX4_meltAt_30 : decode cX4_meltAt 30 = .ok (.iconst 1, 1) := by decide +kernel
theorem dX4_meltAt_31 : decode cX4_meltAt 31 = .ok (.iadd, 1) := by decide +kernel
theorem dX4_meltAt_32 : decode cX4_meltAt 32 = .ok (.putfield 63, 3) := by decide +kernel
theorem dX4_meltAt_35 : decode cX4_meltAt 35 = .ok (.aload_n 0, 1) := by decide +kernel
theorem dX4_meltAt_36 : decode cX4_meltAt 36 = .ok (.aload_n 0, 1) := by decide +kernel
theorem dX4_meltAt_37 : decode cX4_meltAt 37 = .ok (.getfield 19, 3) := by decide +kernel
theorem dX4_meltAt_40 : decode cX4_meltAt 40 = .ok (.getfield 66, 3) := by decide +kernel
theorem dX4_meltAt_43 : decode cX4_meltAt 43 = .ok (.putfield 69, 3) := by decide +kernel
theorem dX4_meltAt_46 : decode cX4_meltAt 46 = .ok (.aload_n 0, 1) := by decide +kernel
theorem dX4_meltAt_47 : decode cX4_meltAt 47 = .ok (.aload_n 0, 1) := by decide +kernel
theorem dX4_meltAt_48 : decode cX4_meltAt 48 = .ok (.getfield 63, 3) := by decide +kernel
theorem dX4_meltAt_51 : decode cX4_meltAt 51 = .ok (.aload_n 0, 1) := by decide +kernel
theorem dX4_meltAt_52 : decode cX4_meltAt 52 = .ok (.getfield 33, 3) := by decide +kernel
theorem dX4_meltAt_55 : decode cX4_meltAt 55 = .ok (.invokevirtual 60, 3) := by decide +kernel
theorem dX4_meltAt_58 : decode cX4_meltAt 58 = .ok (.iadd, 1) := by decide +kernel
theorem dX4_meltAt_59 : decode cX4_meltAt 59 = .ok (.iconst 1, 1) := by decide +kernel
theorem dX4_meltAt_60 : decode cX4_meltAt 60 = .ok (.iadd, 1) := by decide +kernel
theorem dX4_meltAt_61 : decode cX4_meltAt 61 = .ok (.putfield 72, 3) := by decide +kernel
theorem dX4_meltAt_64 : decode cX4_meltAt 64 = .ok (.aload_n 0, 1) := by decide +kernel
theorem dX4_meltAt_65 : decode cX4_meltAt 65 = .ok (.invokevirtual 75, 3) := by decide +kernel
theorem dX4_meltAt_68 : decode cX4_meltAt 68 = .ok (.iconst 1, 1) := by decide +kernel
theorem dX4_meltAt_69 : decode cX4_meltAt 69 = .ok (.isub, 1) := by decide +kernel
theorem dX4_meltAt_70 : decode cX4_meltAt 70 = .ok (.istore_n 2, 1) := by decide +kernel
theorem dX4_meltAt_71 : decode cX4_meltAt 71 = .ok (.aload_n 0, 1) := by decide +kernel
theorem dX4_meltAt_72 : decode cX4_meltAt 72 = .ok (.getfield 19, 3) := by decide +kernel
theorem dX4_meltAt_75 : decode cX4_meltAt 75 = .ok (.getfield 23, 3) := by decide +kernel
theorem dX4_meltAt_78 : decode cX4_meltAt 78 = .ok (.iload_n 2, 1) := by decide +kernel
theorem dX4_meltAt_79 : decode cX4_meltAt 79 = .ok (.iadd, 1) := by decide +kernel
theorem dX4_meltAt_80 : decode cX4_meltAt 80 = .ok (.sipush 200, 3) := by decide +kernel
theorem dX4_meltAt_83 : decode cX4_meltAt 83 = .ok (.if_icmp .gt 37, 3) := by decide +kernel
theorem dX4_meltAt_120 : decode cX4_meltAt 120 = .ok (.iconst 0, 1) := by decide +kernel
theorem dX4_meltAt_121 : decode cX4_meltAt 121 = .ok (.ireturn, 1) := by decide +kernel
theorem dX4_meltAt_86 : decode cX4_meltAt 86 = .ok (.aload_n 0, 1) := by decide +kernel
theorem dX4_meltAt_87 : decode cX4_meltAt 87 = .ok (.getfield 69, 3) := by decide +kernel
theorem dX4_meltAt_90 : decode cX4_meltAt 90 = .ok (.aload_n 0, 1) := by decide +kernel
theorem dX4_meltAt_91 : decode cX4_meltAt 91 = .ok (.getfield 33, 3) := by decide +kernel
theorem dX4_meltAt_94 : decode cX4_meltAt 94 = .ok (.getfield 66, 3) := by decide +kernel
theorem dX4_meltAt_97 : decode cX4_meltAt 97 = .ok (.iadd, 1) := by decide +kernel
theorem dX4_meltAt_98 : decode cX4_meltAt 98 = .ok (.bipush 12, 2) := by decide +kernel
theorem dX4_meltAt_100 : decode cX4_meltAt 100 = .ok (.if_icmp .gt 20, 3) := by decide +kernel
theorem dX4_meltAt_103 : decode cX4_meltAt 103 = .ok (.aload_n 0, 1) := by decide +kernel
theorem dX4_meltAt_104 : decode cX4_meltAt 104 = .ok (.getfield 57, 3) := by decide +kernel
theorem dX4_meltAt_107 : decode cX4_meltAt 107 = .ok (.aload_n 0, 1) := by decide +kernel
theorem dX4_meltAt_108 : decode cX4_meltAt 108 = .ok (.getfield 33, 3) := by decide +kernel
theorem dX4_meltAt_111 : decode cX4_meltAt 111 = .ok (.invokevirtual 54, 3) := by decide +kernel
theorem dX4_meltAt_114 : decode cX4_meltAt 114 = .ok (.iadd, 1) := by decide +kernel
theorem dX4_meltAt_115 : decode cX4_meltAt 115 = .ok (.bipush 100, 2) := by decide +kernel
theorem dX4_meltAt_117 : decode cX4_meltAt 117 = .ok (.if_icmp .le 5, 3) := by decide +kernel
theorem dX4_meltAt_122 : decode cX4_meltAt 122 = .ok (.aload_n 0, 1) := by decide +kernel
theorem dX4_meltAt_123 : decode cX4_meltAt 123 = .ok (.aload_n 0, 1) := by decide +kernel
theorem dX4_meltAt_124 : decode cX4_meltAt 124 = .ok (.getfield 19, 3) := by decide +kernel
theorem dX4_meltAt_127 : decode cX4_meltAt 127 = .ok (.iload_n 1, 1) := by decide +kernel
theorem dX4_meltAt_128 : decode cX4_meltAt 128 = .ok (.iconst 1, 1) := by decide +kernel
theorem dX4_meltAt_129 : decode cX4_meltAt 129 = .ok (.invokevirtual 29, 3) := by decide +kernel
theorem dX4_meltAt_132 : decode cX4_meltAt 132 = .ok (.putfield 78, 3) := by decide +kernel
theorem dX4_meltAt_135 : decode cX4_meltAt 135 = .ok (.iconst 0, 1) := by decide +kernel
theorem dX4_meltAt_136 : decode cX4_meltAt 136 = .ok (.istore_n 3, 1) := by decide +kernel
theorem dX4_meltAt_137 : decode cX4_meltAt 137 = .ok (.iload_n 3, 1) := by decide +kernel
theorem dX4_meltAt_138 : decode cX4_meltAt 138 = .ok (.aload_n 0, 1) := by decide +kernel
theorem dX4_meltAt_139 : decode cX4_meltAt 139 = .ok (.getfield 9, 3) := by decide +kernel
theorem dX4_meltAt_142 : decode cX4_meltAt 142 = .ok (.arraylength, 1) := by decide +kernel
theorem dX4_meltAt_143 : decode cX4_meltAt 143 = .ok (.if_icmp .ge 28, 3) := by decide +kernel
theorem dX4_meltAt_146 : decode cX4_meltAt 146 = .ok (.aload_n 0, 1) := by decide +kernel
theorem dX4_meltAt_147 : decode cX4_meltAt 147 = .ok (.getfield 9, 3) := by decide +kernel
theorem dX4_meltAt_150 : decode cX4_meltAt 150 = .ok (.iload_n 3, 1) := by decide +kernel
theorem dX4_meltAt_151 : decode cX4_meltAt 151 = .ok (.aload_n 0, 1) := by decide +kernel
theorem dX4_meltAt_152 : decode cX4_meltAt 152 = .ok (.getfield 19, 3) := by decide +kernel
theorem dX4_meltAt_155 : decode cX4_meltAt 155 = .ok (.iload_n 1, 1) := by decide +kernel
theorem dX4_meltAt_156 : decode cX4_meltAt 156 = .ok (.iconst 3, 1) := by decide +kernel
theorem dX4_meltAt_157 : decode cX4_meltAt 157 = .ok (.iload_n 3, 1) := by decide +kernel
theorem dX4_meltAt_158 : decode cX4_meltAt 158 = .ok (.iadd, 1) := by decide +kernel
theorem dX4_meltAt_159 : decode cX4_meltAt 159 = .ok (.invokevirtual 29, 3) := by decide +kernel
theorem dX4_meltAt_162 : decode cX4_meltAt 162 = .ok (.invokestatic 81, 3) := by decide +kernel
theorem dX4_meltAt_165 : decode cX4_meltAt 165 = .ok (.iinc 3 1, 3) := by decide +kernel
theorem dX4_meltAt_168 : decode cX4_meltAt 168 = .ok (.goto (-31), 3) := by decide +kernel
set_option maxRecDepth 20000 in
theorem l_X4_meltAt_137 (d : Nat) {T : CT} {σ0 : MS} {a : Nat} {c1 : Int} {c2 : Int} {post : Option Value → CT → MS → Prop} (h_a : OB T a 4) (r_c1 : -2147483648 ≤ c1 ∧ c1 ≤ 2147483647) (r_c2 : -1 ≤ c2 ∧ c2 ≤ 999) (hw0 : WT T σ0) (hh : 0 ≤ σ0.2.1 25 a) (hg : 0 ≤ σ0.2.1 26 a) (hx_171 : ∀ (i3 : Int) (σ : MS) , (WT T σ) → (FrC T [] σ0 σ) → (0 ≤ i3 ∧ i3 ≤ 2147483647) → Tn (d + 5) m_X4_meltAt 171 T σ [(0, .ref a), (1, .int (iI c1)), (2, .int (iI c2)), (3, .int (iI i3))] [] post) : ∀ (n : Nat) (i3 : Int) (σ : MS) , (WT T σ) → (FrC T [] σ0 σ) → (0 ≤ i3 ∧ i3 ≤ 2147483647) → (2147483700 - i3).toNat = n → Tn (d + 5) m_X4_meltAt 137 T σ [(0, .ref a), (1, .int (iI c1)), (2, .int (iI c2)), (3, .int (iI i3))] [] post := by
  intro n
  induction n using Nat.strongRecOn with
  | _ n ih =>
    intro i3 σ hw hF r_i3 hm
    refine tn_iload_n dX4_meltAt_137 rfl 3 rfl ?_
    refine tn_aload_n dX4_meltAt_138 rfl 0 rfl ?_
    obtain ⟨x1, hx2, hk3, hl4⟩ : ∃ x : Nat, σ0.2.1 24 a = (x : Int) ∧ AR T x 1 8 8 := wf_24 hw0 h_a
    have hk3i : IA T x1 := by unfold IA; omega
    refine tn_getR (ci := 4) (i := 1) (n := 24) (x := x1) dX4_meltAt_139 rfl lay_4 (by decide) fl4_9 h_a rfl rfl (rc_F hF (Or.inl (by decide)) (by decide) (hx2)) ?_
    refine tn_alenX dX4_meltAt_142 (Or.inl hk3i) ?_
    refine tn_icmp_ge (tgt := 171) dX4_meltAt_143 (by decide) ⟨by omega, by omega⟩ ⟨by omega, by omega⟩ (fun h5 => ?_) (fun h5 => ?_)
    · exact tn_sub [0, 1, 2, 3] rfl (hx_171 (i3) σ hw (FrC.rfl.trans (FrC.sub hF (by decide))) (by omega))
    · refine tn_aload_n dX4_meltAt_146 rfl 0 rfl ?_
      refine tn_getR (ci := 4) (i := 1) (n := 24) (x := x1) dX4_meltAt_147 rfl lay_4 (by decide) fl4_9 h_a rfl rfl (rc_F hF (Or.inl (by decide)) (by decide) (hx2)) ?_
      refine tn_iload_n dX4_meltAt_150 rfl 3 rfl ?_
      refine tn_aload_n dX4_meltAt_151 rfl 0 rfl ?_
      have nn13 : 0 ≤ σ0.2.1 25 a := (by omega)
      obtain ⟨x10, hx11, hk12⟩ := (wf_25 hw0 h_a).resolve_left (by omega)
      have hk12o : OB T x10 1 := ⟨by omega, by rw [hk12]; rfl, by omega⟩
      refine tn_getR (ci := 4) (i := 2) (n := 25) (x := x10) dX4_meltAt_152 rfl lay_4 (by decide) fl4_19 h_a rfl rfl (rc_F hF (Or.inl (by decide)) (by decide) (hx11)) ?_
      refine tn_iload_n dX4_meltAt_155 rfl 1 rfl ?_
      refine tn_iconst dX4_meltAt_156 ?_
      refine tn_iload_n dX4_meltAt_157 rfl 3 rfl ?_
      refine tn_iadd dX4_meltAt_158 ?_
      refine tn_callV (M := m_X4_meltAt) (pc := 159) (ix := 29) (ci := 1) (M' := m_X1_get) (As := [.int (iI c1), .int (iI (3 + i3))]) (rest := [.int (iI i3), .ref x1]) dX4_meltAt_159 ok_X1_get im_X1_get se_X1_get ml4_29 np_X1_get rfl rfl hk12o rfl (Nat.le_of_ble_eq_true rfl) (Nat.le_of_ble_eq_true rfl) rfl (k_X1_get (d + 3) (T := T) (σ := σ) (a := x10) (k := c1) (c := 3 + i3) hk12o (by omega) (by omega) hw (by omega)) (fun r14 T16 σ15 gt17 hp => ?_)
      obtain ⟨v19, rfl, rfl, rfl, f18⟩ := hp
      clear gt17
      show Tn _ _ 162 T σ [(0, .ref a), (1, .int (iI c1)), (2, .int (iI c2)), (3, .int (iI i3))] [.int (iI v19), .int (iI i3), .ref x1] _
      refine tn_callSN (M := m_X4_meltAt) (pc := 162) (ix := 81) (M' := m_X11_put) (As := [.ref x1, .int (iI i3), .int (iI v19)]) (rest := []) dX4_meltAt_162 ok_X11_put stt_X11_put nl4_81 np_X11_put rfl (Nat.le_of_ble_eq_true rfl) (Nat.le_of_ble_eq_true rfl) rfl (k_X11_put (d + 3) (T := T) (σ := σ) (x := x1) (i := i3) (y := v19) hk3i (by omega) (by omega) (by omega) hw (nh_k hk3 (by unfold HT; omega)) (vok_1 (by have q9 := hk3; omega) (by omega))) (fun r20 T22 σ21 gt23 hp => ?_)
      obtain ⟨rfl, rfl, w25, F26⟩ := hp
      clear gt23
      show Tn _ _ 165 T σ21 [(0, .ref a), (1, .int (iI c1)), (2, .int (iI c2)), (3, .int (iI i3))] [] _
      refine tn_iinc (q0 := 3) (L' := [(3, .int (iI (i3 + 1))), (0, .ref a), (1, .int (iI c1)), (2, .int (iI c2))]) dX4_meltAt_165 rfl (by decide) rfl ?_
      refine tn_goto (tgt := 137) dX4_meltAt_168 (by decide) ?_
      exact tn_sub [1, 2, 3, 0] rfl (ih _ (by omega) (i3 + 1) σ21 w25 ((FrC.rfl.trans (FrC.sub hF (by decide))).trans (FrC.sub F26 (by decide))) (by omega) rfl)
theorem ml4_85 : Cond.methodLink RX4 85 yX4_addFrames ∈ pWW := pw5 (List.mem_of_getElem? (i := 162) rfl) rfl
theorem ml4_89 : Cond.methodLink RX4 89 yX1_removeRow ∈ pWW := pw5 (List.mem_of_getElem? (i := 167) rfl) rfl
theorem ml4_92 : Cond.methodLink RX4 92 yX1_openRows ∈ pWW := pw5 (List.mem_of_getElem? (i := 168) rfl) rfl
theorem ml4_99 : Cond.methodLink RX4 99 yX4_addEntry ∈ pWW := pw5 (List.mem_of_getElem? (i := 172) rfl) rfl
theorem ml4_102 : Cond.methodLink RX4 102 yX4_addBody ∈ pWW := pw5 (List.mem_of_getElem? (i := 186) rfl) rfl
theorem dX4_meltAt_171 : decode cX4_meltAt 171 = .ok (.aload_n 0, 1) := by decide +kernel
theorem dX4_meltAt_172 : decode cX4_meltAt 172 = .ok (.iload_n 1, 1) := by decide +kernel
theorem dX4_meltAt_173 : decode cX4_meltAt 173 = .ok (.invokevirtual 85, 3) := by decide +kernel
theorem dX4_meltAt_176 : decode cX4_meltAt 176 = .ok (.aload_n 0, 1) := by decide +kernel
theorem dX4_meltAt_177 : decode cX4_meltAt 177 = .ok (.getfield 19, 3) := by decide +kernel
theorem dX4_meltAt_180 : decode cX4_meltAt 180 = .ok (.iload_n 1, 1) := by decide +kernel
theorem dX4_meltAt_181 : decode cX4_meltAt 181 = .ok (.invokevirtual 89, 3) := by decide +kernel
theorem dX4_meltAt_184 : decode cX4_meltAt 184 = .ok (.aload_n 0, 1) := by decide +kernel
theorem dX4_meltAt_185 : decode cX4_meltAt 185 = .ok (.getfield 19, 3) := by decide +kernel
theorem dX4_meltAt_188 : decode cX4_meltAt 188 = .ok (.iload_n 1, 1) := by decide +kernel
theorem dX4_meltAt_189 : decode cX4_meltAt 189 = .ok (.iload_n 2, 1) := by decide +kernel
theorem dX4_meltAt_190 : decode cX4_meltAt 190 = .ok (.iconst 1, 1) := by decide +kernel
theorem dX4_meltAt_191 : decode cX4_meltAt 191 = .ok (.iadd, 1) := by decide +kernel
theorem dX4_meltAt_192 : decode cX4_meltAt 192 = .ok (.invokevirtual 92, 3) := by decide +kernel
theorem dX4_meltAt_195 : decode cX4_meltAt 195 = .ok (.pop, 1) := by decide +kernel
theorem dX4_meltAt_196 : decode cX4_meltAt 196 = .ok (.aload_n 0, 1) := by decide +kernel
theorem dX4_meltAt_197 : decode cX4_meltAt 197 = .ok (.iload_n 1, 1) := by decide +kernel
theorem dX4_meltAt_198 : decode cX4_meltAt 198 = .ok (.putfield 96, 3) := by decide +kernel
theorem dX4_meltAt_201 : decode cX4_meltAt 201 = .ok (.aload_n 0, 1) := by decide +kernel
theorem dX4_meltAt_202 : decode cX4_meltAt 202 = .ok (.invokevirtual 99, 3) := by decide +kernel
theorem dX4_meltAt_205 : decode cX4_meltAt 205 = .ok (.aload_n 0, 1) := by decide +kernel
theorem dX4_meltAt_206 : decode cX4_meltAt 206 = .ok (.invokevirtual 102, 3) := by decide +kernel
theorem dX4_meltAt_209 : decode cX4_meltAt 209 = .ok (.iconst 1, 1) := by decide +kernel
theorem dX4_meltAt_210 : decode cX4_meltAt 210 = .ok (.ireturn, 1) := by decide +kernel
set_option maxRecDepth 20000 in
theorem k_X4_meltAt (d : Nat) {T : CT} {σ : MS} {a : Nat} {p1 : Int} (ha : OB T a 4) (h_p1 : -2147483648 ≤ p1 ∧ p1 ≤ 2147483647) (hw : WT T σ) (hh : 0 ≤ σ.2.1 25 a) (hg : 0 ≤ σ.2.1 26 a) : Tn (d + 5) m_X4_meltAt 0 T σ [(0, .ref a), (1, .int (iI p1))] [] (fun ro T2 σ2 => ∃ v : Int, ro = some (.int (iI v)) ∧ WT T2 σ2 ∧ FrC T [5, 6, 10, 27, 28, 29, 30, 31, 32] σ σ2 ∧ (v = 0 ∨ v = 1)) := by
  refine tn_aload_n dX4_meltAt_0 rfl 0 rfl ?_
  obtain ⟨x1, hx2, hk3⟩ : ∃ x : Nat, σ.2.1 23 a = (x : Int) ∧ (T x).1 = 33 := wf_23 hw ha
  have hk3o : OB T x1 3 := ⟨by omega, by rw [hk3]; rfl, by omega⟩
  refine tn_getR (ci := 4) (i := 0) (n := 23) (x := x1) dX4_meltAt_1 rfl lay_4 (by decide) fl4_15 ha rfl rfl (hx2) ?_
  refine tn_aload_n dX4_meltAt_4 rfl 0 rfl ?_
  have nn12 : 0 ≤ σ.2.1 26 a := (by omega)
  obtain ⟨x9, hx10, hk11⟩ := (wf_26 hw ha).resolve_left (by omega)
  have hk11o : OB T x9 1 := ⟨by omega, by rw [hk11]; rfl, by omega⟩
  refine tn_getR (ci := 4) (i := 3) (n := 26) (x := x9) dX4_meltAt_5 rfl lay_4 (by decide) fl4_33 ha rfl rfl (hx10) ?_
  refine tn_callV (M := m_X4_meltAt) (pc := 8) (ix := 48) (ci := 3) (M' := m_X3_findLiving) (As := [.ref x9]) (rest := []) dX4_meltAt_8 ok_X3_findLiving im_X3_findLiving se_X3_findLiving ml4_48 np_X3_findLiving rfl rfl hk3o rfl (Nat.le_of_ble_eq_true rfl) (Nat.le_of_ble_eq_true rfl) rfl (k_X3_findLiving (d) (T := T) (σ := σ) (a := x1) (p1 := x9) hk3o hk11o hw ) (fun r13 T15 σ14 gt16 hp => ?_)
  obtain ⟨rfl, rfl, w18, F19⟩ := hp
  clear gt16
  show Tn _ _ 11 T σ14 [(0, .ref a), (1, .int (iI p1))] [] _
  refine tn_aload_n dX4_meltAt_11 rfl 0 rfl ?_
  refine tn_aload_n dX4_meltAt_12 rfl 0 rfl ?_
  have nn27 : 0 ≤ σ.2.1 25 a := (by omega)
  obtain ⟨x24, hx25, hk26⟩ := (wf_25 hw ha).resolve_left (by omega)
  have hk26o : OB T x24 1 := ⟨by omega, by rw [hk26]; rfl, by omega⟩
  refine tn_getR (ci := 4) (i := 2) (n := 25) (x := x24) dX4_meltAt_13 rfl lay_4 (by decide) fl4_19 ha rfl rfl (rc_F F19 (Or.inl (by decide)) (by decide) (hx25)) ?_
  refine tn_callV (M := m_X4_meltAt) (pc := 16) (ix := 54) (ci := 1) (M' := m_X1_registers) (As := []) (rest := [.ref a]) dX4_meltAt_16 ok_X1_registers im_X1_registers se_X1_registers ml4_54 np_X1_registers rfl rfl hk26o rfl (Nat.le_of_ble_eq_true rfl) (Nat.le_of_ble_eq_true rfl) rfl (k_X1_registers (d) (T := T) (σ := σ14) (a := x24) hk26o w18 ) (fun r28 T30 σ29 gt31 hp => ?_)
  obtain ⟨v33, rfl, rfl, rfl, f32⟩ := hp
  clear gt31
  show Tn _ _ 19 T σ14 [(0, .ref a), (1, .int (iI p1))] [.int (iI v33), .ref a] _
  refine tn_putV (ci := 4) (i := 4) (n := 27) (r := false) (v := v33) tyX4 tyX4_ok nmX4 dX4_meltAt_19 rfl lay_4 (by decide) fl4_57 rfl (tyX4_ok 4 (by decide)) rfl rfl rfl ha rfl rfl ?_
  refine tn_aload_n dX4_meltAt_22 rfl 0 rfl ?_
  refine tn_aload_n dX4_meltAt_23 rfl 0 rfl ?_
  refine tn_getR (ci := 4) (i := 2) (n := 25) (x := x24) dX4_meltAt_24 rfl lay_4 (by decide) fl4_19 ha rfl rfl (rc_o (by decide) (rc_F F19 (Or.inl (by decide)) (by decide) (hx25))) ?_
  refine tn_callV (M := m_X4_meltAt) (pc := 27) (ix := 60) (ci := 1) (M' := m_X1_greatestLabel) (As := []) (rest := [.ref a]) dX4_meltAt_27 ok_X1_greatestLabel im_X1_greatestLabel se_X1_greatestLabel ml4_60 np_X1_greatestLabel rfl rfl hk26o rfl (Nat.le_of_ble_eq_true rfl) (Nat.le_of_ble_eq_true rfl) rfl (k_X1_greatestLabel (d + 2) (T := T) (σ := (sA 27 a (v33) σ14)) (a := x24) hk26o (w18.put (by decide) (by decide) (fo_27 (by omega))) ) (fun r34 T36 σ35 gt37 hp => ?_)
  obtain ⟨v39, rfl, rfl, rfl, f38⟩ := hp
  clear gt37
  show Tn _ _ 30 T (sA 27 a (v33) σ14) [(0, .ref a), (1, .int (iI p1))] [.int (iI v39), .ref a] _
  refine tn_iconst dX4_meltAt_30 ?_
  refine tn_iadd dX4_meltAt_31 ?_
  refine tn_any (fun z40 g41 => ?_)
  have g41r : -2147483648 ≤ z40 ∧ z40 ≤ 2147483647 := g41
  refine tn_putV (ci := 4) (i := 5) (n := 28) (r := false) (v := z40) tyX4 tyX4_ok nmX4 dX4_meltAt_32 rfl lay_4 (by decide) fl4_63 rfl (tyX4_ok 5 (by decide)) rfl rfl rfl ha rfl rfl ?_
  refine tn_aload_n dX4_meltAt_35 rfl 0 rfl ?_
  refine tn_aload_n dX4_meltAt_36 rfl 0 rfl ?_
  refine tn_getR (ci := 4) (i := 2) (n := 25) (x := x24) dX4_meltAt_37 rfl lay_4 (by decide) fl4_19 ha rfl rfl (rc_o (by decide) (rc_o (by decide) (rc_F F19 (Or.inl (by decide)) (by decide) (hx25)))) ?_
  refine tn_getI (ci := 1) (i := 5) (n := 10) (t := σ.2.1 10 x24) dX4_meltAt_40 rfl lay_1 (by decide) fl4_66 hk26o rfl rfl (rc_o (by decide) (rc_o (by decide) (rc_F F19 (Or.inl (by decide)) (by decide) (rfl)))) ?_
  have g42 : ((0 : Int) ≤ σ.2.1 10 x24 ∧ σ.2.1 10 x24 ≤ 12) := wf_10 hw hk26o
  refine tn_putV (ci := 4) (i := 6) (n := 29) (r := false) (v := σ.2.1 10 x24) tyX4 tyX4_ok nmX4 dX4_meltAt_43 rfl lay_4 (by decide) fl4_69 rfl (tyX4_ok 6 (by decide)) rfl rfl rfl ha rfl rfl ?_
  refine tn_aload_n dX4_meltAt_46 rfl 0 rfl ?_
  refine tn_aload_n dX4_meltAt_47 rfl 0 rfl ?_
  refine tn_getI (ci := 4) (i := 5) (n := 28) (t := z40) dX4_meltAt_48 rfl lay_4 (by decide) fl4_63 ha rfl rfl (rc_o (by decide) (ra_eq)) ?_
  refine tn_aload_n dX4_meltAt_51 rfl 0 rfl ?_
  refine tn_getR (ci := 4) (i := 3) (n := 26) (x := x9) dX4_meltAt_52 rfl lay_4 (by decide) fl4_33 ha rfl rfl (rc_o (by decide) (rc_o (by decide) (rc_o (by decide) (rc_F F19 (Or.inl (by decide)) (by decide) (hx10))))) ?_
  refine tn_callV (M := m_X4_meltAt) (pc := 55) (ix := 60) (ci := 1) (M' := m_X1_greatestLabel) (As := []) (rest := [.int (iI z40), .ref a]) dX4_meltAt_55 ok_X1_greatestLabel im_X1_greatestLabel se_X1_greatestLabel ml4_60 np_X1_greatestLabel rfl rfl hk11o rfl (Nat.le_of_ble_eq_true rfl) (Nat.le_of_ble_eq_true rfl) rfl (k_X1_greatestLabel (d + 2) (T := T) (σ := (sA 29 a (σ.2.1 10 x24) (sA 28 a (z40) (sA 27 a (v33) σ14)))) (a := x9) hk11o (((w18.put (by decide) (by decide) (fo_27 (by omega))).put (by decide) (by decide) (fo_28 (by omega))).put (by decide) (by decide) (fo_29 (by omega))) ) (fun r43 T45 σ44 gt46 hp => ?_)
  obtain ⟨v48, rfl, rfl, rfl, f47⟩ := hp
  clear gt46
  show Tn _ _ 58 T (sA 29 a (σ.2.1 10 x24) (sA 28 a (z40) (sA 27 a (v33) σ14))) [(0, .ref a), (1, .int (iI p1))] [.int (iI v48), .int (iI z40), .ref a] _
  refine tn_iadd dX4_meltAt_58 ?_
  refine tn_any (fun z49 g50 => ?_)
  have g50r : -2147483648 ≤ z49 ∧ z49 ≤ 2147483647 := g50
  refine tn_iconst dX4_meltAt_59 ?_
  refine tn_iadd dX4_meltAt_60 ?_
  refine tn_any (fun z51 g52 => ?_)
  have g52r : -2147483648 ≤ z51 ∧ z51 ≤ 2147483647 := g52
  refine tn_putV (ci := 4) (i := 7) (n := 30) (r := false) (v := z51) tyX4 tyX4_ok nmX4 dX4_meltAt_61 rfl lay_4 (by decide) fl4_72 rfl (tyX4_ok 7 (by decide)) rfl rfl rfl ha rfl rfl ?_
  refine tn_aload_n dX4_meltAt_64 rfl 0 rfl ?_
  refine tn_callV (M := m_X4_meltAt) (pc := 65) (ix := 75) (ci := 4) (M' := m_X4_rowsNeeded) (As := []) (rest := []) dX4_meltAt_65 ok_X4_rowsNeeded im_X4_rowsNeeded se_X4_rowsNeeded ml4_75 np_X4_rowsNeeded rfl rfl ha rfl (Nat.le_of_ble_eq_true rfl) (Nat.le_of_ble_eq_true rfl) rfl (k_X4_rowsNeeded (d) (T := T) (σ := (sA 30 a (z51) (sA 29 a (σ.2.1 10 x24) (sA 28 a (z40) (sA 27 a (v33) σ14))))) (a := a) ha ((((w18.put (by decide) (by decide) (fo_27 (by omega))).put (by decide) (by decide) (fo_28 (by omega))).put (by decide) (by decide) (fo_29 (by omega))).put (by decide) (by decide) (fo_30 (by omega))) (by rw [show (sA 30 a (z51) (sA 29 a (σ.2.1 10 x24) (sA 28 a (z40) (sA 27 a (v33) σ14)))).2.1 26 a = σ.2.1 26 a from rc_o (by decide) (rc_o (by decide) (rc_o (by decide) (rc_o (by decide) (rc_F F19 (Or.inl (by decide)) (by decide) (rfl)))))]; omega)) (fun r53 T55 σ54 gt56 hp => ?_)
  obtain ⟨v58, rfl, rfl, rfl, f57⟩ := hp
  clear gt56
  show Tn _ _ 68 T (sA 30 a (z51) (sA 29 a (σ.2.1 10 x24) (sA 28 a (z40) (sA 27 a (v33) σ14)))) [(0, .ref a), (1, .int (iI p1))] [.int (iI v58)] _
  refine tn_iconst dX4_meltAt_68 ?_
  refine tn_isub dX4_meltAt_69 ?_
  refine tn_istore_n (L' := [(2, .int (iI (v58 - 1))), (0, .ref a), (1, .int (iI p1))]) dX4_meltAt_70 rfl (by decide) rfl ?_
  refine tn_aload_n dX4_meltAt_71 rfl 1 rfl ?_
  refine tn_getR (ci := 4) (i := 2) (n := 25) (x := x24) dX4_meltAt_72 rfl lay_4 (by decide) fl4_19 ha rfl rfl (rc_o (by decide) (rc_o (by decide) (rc_o (by decide) (rc_o (by decide) (rc_F F19 (Or.inl (by decide)) (by decide) (hx25)))))) ?_
  refine tn_getI (ci := 1) (i := 1) (n := 6) (t := σ.2.1 6 x24) dX4_meltAt_75 rfl lay_1 (by decide) fl4_23 hk26o rfl rfl (rc_o (by decide) (rc_o (by decide) (rc_o (by decide) (rc_o (by decide) (rc_F F19 (Or.inl (by decide)) (by decide) (rfl)))))) ?_
  have g59 : ((0 : Int) ≤ σ.2.1 6 x24 ∧ σ.2.1 6 x24 ≤ 5000) ∧ ((T x24).1 = 50 → σ.2.1 6 x24 ≤ 200) := wf_6 hw hk26o
  have g59x := g59.2
  replace g59 := g59.1
  have g59x := g59x hk26
  refine tn_iload_n dX4_meltAt_78 rfl 0 rfl ?_
  refine tn_iadd dX4_meltAt_79 ?_
  refine tn_sipush dX4_meltAt_80 (by decide) ?_
  refine tn_icmp_gt (tgt := 120) dX4_meltAt_83 (by decide) ⟨by omega, by omega⟩ ⟨by decide, by decide⟩ (fun h60 => ?_) (fun h60 => ?_)
  · refine tn_iconst dX4_meltAt_120 ?_
    exact tn_zret (v := 0) rfl (by decide) dX4_meltAt_121 ⟨_, rfl, ((((w18.put (by decide) (by decide) (fo_27 (by omega))).put (by decide) (by decide) (fo_28 (by omega))).put (by decide) (by decide) (fo_29 (by omega))).put (by decide) (by decide) (fo_30 (by omega))), (((((FrC.rfl.trans (FrC.sub F19 (by decide))).put (by decide) (by decide)).put (by decide) (by decide)).put (by decide) (by decide)).put (by decide) (by decide)), by omega⟩
  · refine tn_aload_n dX4_meltAt_86 rfl 1 rfl ?_
    refine tn_getI (ci := 4) (i := 6) (n := 29) (t := σ.2.1 10 x24) dX4_meltAt_87 rfl lay_4 (by decide) fl4_69 ha rfl rfl (rc_o (by decide) (ra_eq)) ?_
    refine tn_aload_n dX4_meltAt_90 rfl 1 rfl ?_
    refine tn_getR (ci := 4) (i := 3) (n := 26) (x := x9) dX4_meltAt_91 rfl lay_4 (by decide) fl4_33 ha rfl rfl (rc_o (by decide) (rc_o (by decide) (rc_o (by decide) (rc_o (by decide) (rc_F F19 (Or.inl (by decide)) (by decide) (hx10)))))) ?_
    refine tn_getI (ci := 1) (i := 5) (n := 10) (t := σ.2.1 10 x9) dX4_meltAt_94 rfl lay_1 (by decide) fl4_66 hk11o rfl rfl (rc_o (by decide) (rc_o (by decide) (rc_o (by decide) (rc_o (by decide) (rc_F F19 (Or.inl (by decide)) (by decide) (rfl)))))) ?_
    have g61 : ((0 : Int) ≤ σ.2.1 10 x9 ∧ σ.2.1 10 x9 ≤ 12) := wf_10 hw hk11o
    refine tn_iadd dX4_meltAt_97 ?_
    refine tn_bipush dX4_meltAt_98 (by decide) ?_
    refine tn_icmp_gt (tgt := 120) dX4_meltAt_100 (by decide) ⟨by omega, by omega⟩ ⟨by decide, by decide⟩ (fun h62 => ?_) (fun h62 => ?_)
    · refine tn_iconst dX4_meltAt_120 ?_
      exact tn_zret (v := 0) rfl (by decide) dX4_meltAt_121 ⟨_, rfl, ((((w18.put (by decide) (by decide) (fo_27 (by omega))).put (by decide) (by decide) (fo_28 (by omega))).put (by decide) (by decide) (fo_29 (by omega))).put (by decide) (by decide) (fo_30 (by omega))), (((((FrC.rfl.trans (FrC.sub F19 (by decide))).put (by decide) (by decide)).put (by decide) (by decide)).put (by decide) (by decide)).put (by decide) (by decide)), by omega⟩
    · refine tn_aload_n dX4_meltAt_103 rfl 1 rfl ?_
      refine tn_getI (ci := 4) (i := 4) (n := 27) (t := v33) dX4_meltAt_104 rfl lay_4 (by decide) fl4_57 ha rfl rfl (rc_o (by decide) (rc_o (by decide) (rc_o (by decide) (ra_eq)))) ?_
      refine tn_aload_n dX4_meltAt_107 rfl 1 rfl ?_
      refine tn_getR (ci := 4) (i := 3) (n := 26) (x := x9) dX4_meltAt_108 rfl lay_4 (by decide) fl4_33 ha rfl rfl (rc_o (by decide) (rc_o (by decide) (rc_o (by decide) (rc_o (by decide) (rc_F F19 (Or.inl (by decide)) (by decide) (hx10)))))) ?_
      refine tn_callV (M := m_X4_meltAt) (pc := 111) (ix := 54) (ci := 1) (M' := m_X1_registers) (As := []) (rest := [.int (iI v33)]) dX4_meltAt_111 ok_X1_registers im_X1_registers se_X1_registers ml4_54 np_X1_registers rfl rfl hk11o rfl (Nat.le_of_ble_eq_true rfl) (Nat.le_of_ble_eq_true rfl) rfl (k_X1_registers (d) (T := T) (σ := (sA 30 a (z51) (sA 29 a (σ.2.1 10 x24) (sA 28 a (z40) (sA 27 a (v33) σ14))))) (a := x9) hk11o ((((w18.put (by decide) (by decide) (fo_27 (by omega))).put (by decide) (by decide) (fo_28 (by omega))).put (by decide) (by decide) (fo_29 (by omega))).put (by decide) (by decide) (fo_30 (by omega))) ) (fun r63 T65 σ64 gt66 hp => ?_)
      obtain ⟨v68, rfl, rfl, rfl, f67⟩ := hp
      clear gt66
      show Tn _ _ 114 T (sA 30 a (z51) (sA 29 a (σ.2.1 10 x24) (sA 28 a (z40) (sA 27 a (v33) σ14)))) [(2, .int (iI (v58 - 1))), (0, .ref a), (1, .int (iI p1))] [.int (iI v68), .int (iI v33)] _
      refine tn_iadd dX4_meltAt_114 ?_
      refine tn_any (fun z69 g70 => ?_)
      have g70r : -2147483648 ≤ z69 ∧ z69 ≤ 2147483647 := g70
      refine tn_bipush dX4_meltAt_115 (by decide) ?_
      refine tn_icmp_le (tgt := 122) dX4_meltAt_117 (by decide) ⟨by omega, by omega⟩ ⟨by decide, by decide⟩ (fun h71 => ?_) (fun h71 => ?_)
      · refine tn_aload_n dX4_meltAt_122 rfl 1 rfl ?_
        refine tn_aload_n dX4_meltAt_123 rfl 1 rfl ?_
        refine tn_getR (ci := 4) (i := 2) (n := 25) (x := x24) dX4_meltAt_124 rfl lay_4 (by decide) fl4_19 ha rfl rfl (rc_o (by decide) (rc_o (by decide) (rc_o (by decide) (rc_o (by decide) (rc_F F19 (Or.inl (by decide)) (by decide) (hx25)))))) ?_
        refine tn_iload_n dX4_meltAt_127 rfl 2 rfl ?_
        refine tn_iconst dX4_meltAt_128 ?_
        refine tn_callV (M := m_X4_meltAt) (pc := 129) (ix := 29) (ci := 1) (M' := m_X1_get) (As := [.int (iI p1), .int (iI 1)]) (rest := [.ref a]) dX4_meltAt_129 ok_X1_get im_X1_get se_X1_get ml4_29 np_X1_get rfl rfl hk26o rfl (Nat.le_of_ble_eq_true rfl) (Nat.le_of_ble_eq_true rfl) rfl (k_X1_get (d + 3) (T := T) (σ := (sA 30 a (z51) (sA 29 a (σ.2.1 10 x24) (sA 28 a (z40) (sA 27 a (v33) σ14))))) (a := x24) (k := p1) (c := 1) hk26o (by omega) (by decide) ((((w18.put (by decide) (by decide) (fo_27 (by omega))).put (by decide) (by decide) (fo_28 (by omega))).put (by decide) (by decide) (fo_29 (by omega))).put (by decide) (by decide) (fo_30 (by omega))) (by omega)) (fun r72 T74 σ73 gt75 hp => ?_)
        obtain ⟨v77, rfl, rfl, rfl, f76⟩ := hp
        clear gt75
        show Tn _ _ 132 T (sA 30 a (z51) (sA 29 a (σ.2.1 10 x24) (sA 28 a (z40) (sA 27 a (v33) σ14)))) [(2, .int (iI (v58 - 1))), (0, .ref a), (1, .int (iI p1))] [.int (iI v77), .ref a] _
        refine tn_putV (ci := 4) (i := 8) (n := 31) (r := false) (v := v77) tyX4 tyX4_ok nmX4 dX4_meltAt_132 rfl lay_4 (by decide) fl4_78 rfl (tyX4_ok 8 (by decide)) rfl rfl rfl ha rfl rfl ?_
        refine tn_iconst dX4_meltAt_135 ?_
        refine tn_istore_n (L' := [(3, .int (iI 0)), (2, .int (iI (v58 - 1))), (0, .ref a), (1, .int (iI p1))]) dX4_meltAt_136 rfl (by decide) rfl ?_
        refine tn_sub [2, 3, 1, 0] rfl (l_X4_meltAt_137 (d) (T := T) (σ0 := (sA 31 a (v77) (sA 30 a (z51) (sA 29 a (σ.2.1 10 x24) (sA 28 a (z40) (sA 27 a (v33) σ14)))))) (a := a) (c1 := p1) (c2 := v58 - 1) ha (by omega) (by omega) (((((w18.put (by decide) (by decide) (fo_27 (by omega))).put (by decide) (by decide) (fo_28 (by omega))).put (by decide) (by decide) (fo_29 (by omega))).put (by decide) (by decide) (fo_30 (by omega))).put (by decide) (by decide) (fo_31 (by omega))) (by rw [show (sA 31 a (v77) (sA 30 a (z51) (sA 29 a (σ.2.1 10 x24) (sA 28 a (z40) (sA 27 a (v33) σ14))))).2.1 25 a = σ.2.1 25 a from rc_o (by decide) (rc_o (by decide) (rc_o (by decide) (rc_o (by decide) (rc_o (by decide) (rc_F F19 (Or.inl (by decide)) (by decide) (rfl))))))]; omega) (by rw [show (sA 31 a (v77) (sA 30 a (z51) (sA 29 a (σ.2.1 10 x24) (sA 28 a (z40) (sA 27 a (v33) σ14))))).2.1 26 a = σ.2.1 26 a from rc_o (by decide) (rc_o (by decide) (rc_o (by decide) (rc_o (by decide) (rc_o (by decide) (rc_F F19 (Or.inl (by decide)) (by decide) (rfl))))))]; omega) (fun i378 σ79 w82 F83 r84 => ?_) _ (0) (sA 31 a (v77) (sA 30 a (z51) (sA 29 a (σ.2.1 10 x24) (sA 28 a (z40) (sA 27 a (v33) σ14))))) (((((w18.put (by decide) (by decide) (fo_27 (by omega))).put (by decide) (by decide) (fo_28 (by omega))).put (by decide) (by decide) (fo_29 (by omega))).put (by decide) (by decide) (fo_30 (by omega))).put (by decide) (by decide) (fo_31 (by omega))) FrC.rfl (by omega) rfl)
        show Tn _ _ 171 T σ79 [(0, .ref a), (1, .int (iI p1)), (2, .int (iI (v58 - 1))), (3, .int (iI i378))] [] _
        refine tn_aload_n dX4_meltAt_171 rfl 0 rfl ?_
        refine tn_iload_n dX4_meltAt_172 rfl 1 rfl ?_
        refine tn_callV (M := m_X4_meltAt) (pc := 173) (ix := 85) (ci := 4) (M' := m_X4_addFrames) (As := [.int (iI p1)]) (rest := []) dX4_meltAt_173 ok_X4_addFrames im_X4_addFrames se_X4_addFrames ml4_85 np_X4_addFrames rfl rfl ha rfl (Nat.le_of_ble_eq_true rfl) (Nat.le_of_ble_eq_true rfl) rfl (k_X4_addFrames (d + 1) (T := T) (σ := σ79) (a := a) (p1 := p1) ha (by omega) w82 (by rw [show σ79.2.1 25 a = σ.2.1 25 a from rc_F F83 (Or.inl (by decide)) (by decide) (rc_o (by decide) (rc_o (by decide) (rc_o (by decide) (rc_o (by decide) (rc_o (by decide) (rc_F F19 (Or.inl (by decide)) (by decide) (rfl)))))))]; omega) (by rw [show σ79.2.1 26 a = σ.2.1 26 a from rc_F F83 (Or.inl (by decide)) (by decide) (rc_o (by decide) (rc_o (by decide) (rc_o (by decide) (rc_o (by decide) (rc_o (by decide) (rc_F F19 (Or.inl (by decide)) (by decide) (rfl)))))))]; omega) (FRB.of (rc_F F83 (Or.inl (by decide)) (by decide) (rc_o (by decide) (rc_o (by decide) (rc_o (by decide) (rc_o (by decide) (rc_o (by decide) (rc_F F19 (Or.inl (by decide)) (by decide) (hx10)))))))) (by rw [show σ79.2.1 29 a = σ.2.1 10 x24 from rc_F F83 (Or.inl (by decide)) (by decide) (rc_o (by decide) (rc_o (by decide) (ra_eq))), show σ79.2.1 10 x9 = σ.2.1 10 x9 from rc_F F83 (Or.inl (by decide)) (by decide) (rc_o (by decide) (rc_o (by decide) (rc_o (by decide) (rc_o (by decide) (rc_o (by decide) (rc_F F19 (Or.inl (by decide)) (by decide) (rfl)))))))]; omega))) (fun r85 T87 σ86 gt88 hp => ?_)
        obtain ⟨rfl, rfl, w90, F91⟩ := hp
        clear gt88
        show Tn _ _ 176 T σ86 [(0, .ref a), (1, .int (iI p1)), (2, .int (iI (v58 - 1))), (3, .int (iI i378))] [] _
        refine tn_aload_n dX4_meltAt_176 rfl 0 rfl ?_
        refine tn_getR (ci := 4) (i := 2) (n := 25) (x := x24) dX4_meltAt_177 rfl lay_4 (by decide) fl4_19 ha rfl rfl (rc_F F91 (Or.inl (by decide)) (by decide) (rc_F F83 (Or.inl (by decide)) (by decide) (rc_o (by decide) (rc_o (by decide) (rc_o (by decide) (rc_o (by decide) (rc_o (by decide) (rc_F F19 (Or.inl (by decide)) (by decide) (hx25))))))))) ?_
        refine tn_iload_n dX4_meltAt_180 rfl 1 rfl ?_
        refine tn_callV (M := m_X4_meltAt) (pc := 181) (ix := 89) (ci := 1) (M' := m_X1_removeRow) (As := [.int (iI p1)]) (rest := []) dX4_meltAt_181 ok_X1_removeRow im_X1_removeRow se_X1_removeRow ml4_89 np_X1_removeRow rfl rfl hk26o rfl (Nat.le_of_ble_eq_true rfl) (Nat.le_of_ble_eq_true rfl) rfl (k_X1_removeRow (d + 3) (T := T) (σ := σ86) (a := x24) (k := p1) hk26o hk26 (by omega) w90 ) (fun r92 T94 σ93 gt95 hp => ?_)
        obtain ⟨rfl, rfl, w97, F98⟩ := hp
        clear gt95
        show Tn _ _ 184 T σ93 [(0, .ref a), (1, .int (iI p1)), (2, .int (iI (v58 - 1))), (3, .int (iI i378))] [] _
        refine tn_aload_n dX4_meltAt_184 rfl 0 rfl ?_
        refine tn_getR (ci := 4) (i := 2) (n := 25) (x := x24) dX4_meltAt_185 rfl lay_4 (by decide) fl4_19 ha rfl rfl (rc_F F98 (Or.inl (by decide)) (by decide) (rc_F F91 (Or.inl (by decide)) (by decide) (rc_F F83 (Or.inl (by decide)) (by decide) (rc_o (by decide) (rc_o (by decide) (rc_o (by decide) (rc_o (by decide) (rc_o (by decide) (rc_F F19 (Or.inl (by decide)) (by decide) (hx25)))))))))) ?_
        refine tn_iload_n dX4_meltAt_188 rfl 1 rfl ?_
        refine tn_iload_n dX4_meltAt_189 rfl 2 rfl ?_
        refine tn_iconst dX4_meltAt_190 ?_
        refine tn_iadd dX4_meltAt_191 ?_
        refine tn_callV (M := m_X4_meltAt) (pc := 192) (ix := 92) (ci := 1) (M' := m_X1_openRows) (As := [.int (iI p1), .int (iI ((v58 - 1) + 1))]) (rest := []) dX4_meltAt_192 ok_X1_openRows im_X1_openRows se_X1_openRows ml4_92 np_X1_openRows rfl rfl hk26o rfl (Nat.le_of_ble_eq_true rfl) (Nat.le_of_ble_eq_true rfl) rfl (k_X1_openRows (d + 1) (T := T) (σ := σ93) (a := x24) (k := p1) (n := (v58 - 1) + 1) hk26o hk26 (by omega) (by omega) w97 (by omega)) (fun r99 T101 σ100 gt102 hp => ?_)
        obtain ⟨v104, rfl, w105, F106, f103⟩ := hp
        replace ha : OB T101 a 4 := gt102.ob ha
        show Tn _ _ 195 T101 σ100 [(0, .ref a), (1, .int (iI p1)), (2, .int (iI (v58 - 1))), (3, .int (iI i378))] [.int (iI v104)] _
        refine tn_pop dX4_meltAt_195 rfl ?_
        refine tn_aload_n dX4_meltAt_196 rfl 0 rfl ?_
        refine tn_iload_n dX4_meltAt_197 rfl 1 rfl ?_
        refine tn_putV (ci := 4) (i := 9) (n := 32) (r := false) (v := p1) tyX4 tyX4_ok nmX4 dX4_meltAt_198 rfl lay_4 (by decide) fl4_96 rfl (tyX4_ok 9 (by decide)) rfl rfl rfl ha rfl rfl ?_
        refine tn_aload_n dX4_meltAt_201 rfl 0 rfl ?_
        refine tn_callV (M := m_X4_meltAt) (pc := 202) (ix := 99) (ci := 4) (M' := m_X4_addEntry) (As := []) (rest := []) dX4_meltAt_202 ok_X4_addEntry im_X4_addEntry se_X4_addEntry ml4_99 np_X4_addEntry rfl rfl ha rfl (Nat.le_of_ble_eq_true rfl) (Nat.le_of_ble_eq_true rfl) rfl (k_X4_addEntry (d) (T := T101) (σ := (sA 32 a (p1) σ100)) (a := a) ha (w105.put (by decide) (by decide) (fo_32 (by omega))) (by rw [show (sA 32 a (p1) σ100).2.1 25 a = σ.2.1 25 a from rc_o (by decide) (rc_F F106 (Or.inl (by decide)) (by decide) (rc_F F98 (Or.inl (by decide)) (by decide) (rc_F F91 (Or.inl (by decide)) (by decide) (rc_F F83 (Or.inl (by decide)) (by decide) (rc_o (by decide) (rc_o (by decide) (rc_o (by decide) (rc_o (by decide) (rc_o (by decide) (rc_F F19 (Or.inl (by decide)) (by decide) (rfl)))))))))))]; omega) (by rw [show (sA 32 a (p1) σ100).2.1 26 a = σ.2.1 26 a from rc_o (by decide) (rc_F F106 (Or.inl (by decide)) (by decide) (rc_F F98 (Or.inl (by decide)) (by decide) (rc_F F91 (Or.inl (by decide)) (by decide) (rc_F F83 (Or.inl (by decide)) (by decide) (rc_o (by decide) (rc_o (by decide) (rc_o (by decide) (rc_o (by decide) (rc_o (by decide) (rc_F F19 (Or.inl (by decide)) (by decide) (rfl)))))))))))]; omega)) (fun r107 T109 σ108 gt110 hp => ?_)
        obtain ⟨rfl, rfl, w112, F113⟩ := hp
        clear gt110
        show Tn _ _ 205 T101 σ108 [(0, .ref a), (1, .int (iI p1)), (2, .int (iI (v58 - 1))), (3, .int (iI i378))] [] _
        refine tn_aload_n dX4_meltAt_205 rfl 0 rfl ?_
        refine tn_callV (M := m_X4_meltAt) (pc := 206) (ix := 102) (ci := 4) (M' := m_X4_addBody) (As := []) (rest := []) dX4_meltAt_206 ok_X4_addBody im_X4_addBody se_X4_addBody ml4_102 np_X4_addBody rfl rfl ha rfl (Nat.le_of_ble_eq_true rfl) (Nat.le_of_ble_eq_true rfl) rfl (k_X4_addBody (d) (T := T101) (σ := σ108) (a := a) ha w112 (by rw [show σ108.2.1 25 a = σ.2.1 25 a from rc_F F113 (Or.inl (by decide)) (by decide) (rc_o (by decide) (rc_F F106 (Or.inl (by decide)) (by decide) (rc_F F98 (Or.inl (by decide)) (by decide) (rc_F F91 (Or.inl (by decide)) (by decide) (rc_F F83 (Or.inl (by decide)) (by decide) (rc_o (by decide) (rc_o (by decide) (rc_o (by decide) (rc_o (by decide) (rc_o (by decide) (rc_F F19 (Or.inl (by decide)) (by decide) (rfl))))))))))))]; omega) (by rw [show σ108.2.1 26 a = σ.2.1 26 a from rc_F F113 (Or.inl (by decide)) (by decide) (rc_o (by decide) (rc_F F106 (Or.inl (by decide)) (by decide) (rc_F F98 (Or.inl (by decide)) (by decide) (rc_F F91 (Or.inl (by decide)) (by decide) (rc_F F83 (Or.inl (by decide)) (by decide) (rc_o (by decide) (rc_o (by decide) (rc_o (by decide) (rc_o (by decide) (rc_o (by decide) (rc_F F19 (Or.inl (by decide)) (by decide) (rfl))))))))))))]; omega)) (fun r114 T116 σ115 gt117 hp => ?_)
        obtain ⟨rfl, rfl, w119, F120⟩ := hp
        clear gt117
        show Tn _ _ 209 T101 σ115 [(0, .ref a), (1, .int (iI p1)), (2, .int (iI (v58 - 1))), (3, .int (iI i378))] [] _
        refine tn_iconst dX4_meltAt_209 ?_
        exact tn_zret (v := 1) rfl (by decide) dX4_meltAt_210 ⟨_, rfl, w119, (((((((((((((FrC.rfl.trans (FrC.sub F19 (by decide))).put (by decide) (by decide)).put (by decide) (by decide)).put (by decide) (by decide)).put (by decide) (by decide)).put (by decide) (by decide)).trans (FrC.sub F83 (by decide))).trans (FrC.sub F91 (by decide))).trans (FrC.sub F98 (by decide))).trans (FrC.sub F106 (by decide))).put (by decide) (by decide)).trans (FrC.sub (FrC.old F113 gt102) (by decide))).trans (FrC.sub (FrC.old F120 gt102) (by decide))), by omega⟩
      · refine tn_iconst dX4_meltAt_120 ?_
        exact tn_zret (v := 0) rfl (by decide) dX4_meltAt_121 ⟨_, rfl, ((((w18.put (by decide) (by decide) (fo_27 (by omega))).put (by decide) (by decide) (fo_28 (by omega))).put (by decide) (by decide) (fo_29 (by omega))).put (by decide) (by decide) (fo_30 (by omega))), (((((FrC.rfl.trans (FrC.sub F19 (by decide))).put (by decide) (by decide)).put (by decide) (by decide)).put (by decide) (by decide)).put (by decide) (by decide)), by omega⟩
