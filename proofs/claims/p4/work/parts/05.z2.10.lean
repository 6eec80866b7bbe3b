def FRB (σ : MS) (a : Nat) : Prop := ∀ g : Nat, σ.2.1 26 a = (g : Int) → 0 ≤ σ.2.1 29 a + σ.2.1 10 g ∧ σ.2.1 29 a + σ.2.1 10 g ≤ 12
theorem FRB.of {σ : MS} {a x : Nat} (hx : σ.2.1 26 a = (x : Int)) (h : 0 ≤ σ.2.1 29 a + σ.2.1 10 x ∧ σ.2.1 29 a + σ.2.1 10 x ≤ 12) : FRB σ a := fun g q => by
  have e : g = x := by omega
  rw [e]; exact h
theorem cd_X4_addFrames : Cond.code yX4_addFrames cX4_addFrames 6 none ∈ pWW := pw5 (List.mem_of_getElem? (i := 165) rfl) rfl
abbrev m_X4_addFrames : MT := (yX4_addFrames, cX4_addFrames, 6, none)
theorem ok_X4_addFrames : pOk m_X4_addFrames := ⟨⟨cd_X4_addFrames, ini_4⟩, by decide +kernel, ⟨by decide +kernel, by decide +kernel⟩, Nat.le_of_ble_eq_true rfl⟩
theorem np_X4_addFrames : (parseMethodDescriptor yX4_addFrames.desc).map (fun d => d.parameters.length) = some 1 := by decide +kernel
theorem im_X4_addFrames : Cond.instanceMethod yX4_addFrames ∈ pWW := pw5 (List.mem_of_getElem? (i := 164) rfl) rfl
theorem se_X4_addFrames : Cond.selects RX4 yX4_addFrames yX4_addFrames ∈ pWW := pws (List.mem_map.mpr ⟨_, lw_pin 68 rfl, rfl⟩) rfl
theorem dX4_addFrames_0 : decode cX4_addFrames 0 = .ok (.iload_n 1, 1) := by decide +kernel
theorem dX4_addFrames_1 : decode cX4_addFrames 1 = .ok (.istore_n 2, 1) := by decide +kernel
theorem dX4_addFrames_2 : decode cX4_addFrames 2 = .ok (.iload_n 2, 1) := by decide +kernel
theorem dX4_addFrames_3 : decode cX4_addFrames 3 = .ok (.ifCond .lt 23, 3) := by decide +kernel
theorem dX4_addFrames_6 : decode cX4_addFrames 6 = .ok (.aload_n 0, 1) := by decide +kernel
theorem dX4_addFrames_7 : decode cX4_addFrames 7 = .ok (.getfield 19, 3) := by decide +kernel
theorem dX4_addFrames_10 : decode cX4_addFrames 10 = .ok (.iload_n 2, 1) := by decide +kernel
theorem dX4_addFrames_11 : decode cX4_addFrames 11 = .ok (.iconst 0, 1) := by decide +kernel
theorem dX4_addFrames_12 : decode cX4_addFrames 12 = .ok (.invokevirtual 29, 3) := by decide +kernel
theorem dX4_addFrames_15 : decode cX4_addFrames 15 = .ok (.bipush 11, 2) := by decide +kernel
theorem dX4_addFrames_17 : decode cX4_addFrames 17 = .ok (.if_icmp .eq 9, 3) := by decide +kernel
theorem dX4_addFrames_20 : decode cX4_addFrames 20 = .ok (.iinc 2 (-1), 3) := by decide +kernel
theorem dX4_addFrames_23 : decode cX4_addFrames 23 = .ok (.goto (-21), 3) := by decide +kernel
set_option maxRecDepth 20000 in
theorem l_X4_addFrames_2 (d : Nat) {T : CT} {σ : MS} {a : Nat} {post : Option Value → CT → MS → Prop} (h_a : OB T a 4) (hw : WT T σ) (hh : 0 ≤ σ.2.1 25 a) (hg : 0 ≤ σ.2.1 26 a) (hx_26 : ∀ (i2 : Int) , (-2147483648 ≤ i2 ∧ i2 ≤ 2147483647) → Tn (d + 3) m_X4_addFrames 26 T σ [(0, .ref a), (2, .int (iI i2))] [] post) : ∀ (n : Nat) (i2 : Int) , (-2147483648 ≤ i2 ∧ i2 ≤ 2147483647) → (i2 + 20).toNat = n → Tn (d + 3) m_X4_addFrames 2 T σ [(0, .ref a), (2, .int (iI i2))] [] post := by
  intro n
  induction n using Nat.strongRecOn with
  | _ n ih =>
    intro i2 r_i2 hm
    refine tn_iload_n dX4_addFrames_2 rfl 1 rfl ?_
    refine tn_if_lt (tgt := 26) dX4_addFrames_3 (by decide) ⟨by omega, by omega⟩ (fun h1 => ?_) (fun h1 => ?_)
    · exact tn_sub [0, 1] rfl (hx_26 (i2) (by omega))
    · refine tn_aload_n dX4_addFrames_6 rfl 0 rfl ?_
      have nn9 : 0 ≤ σ.2.1 25 a := (by omega)
      obtain ⟨x6, hx7, hk8⟩ := (wf_25 hw h_a).resolve_left (by omega)
      have hk8o : OB T x6 1 := ⟨by omega, by rw [hk8]; rfl, by omega⟩
      refine tn_getR (ci := 4) (i := 2) (n := 25) (x := x6) dX4_addFrames_7 rfl lay_4 (by decide) fl4_19 h_a rfl rfl (hx7) ?_
      refine tn_iload_n dX4_addFrames_10 rfl 1 rfl ?_
      refine tn_iconst dX4_addFrames_11 ?_
      refine tn_callV (M := m_X4_addFrames) (pc := 12) (ix := 29) (ci := 1) (M' := m_X1_get) (As := [.int (iI i2), .int (iI 0)]) (rest := []) dX4_addFrames_12 ok_X1_get im_X1_get se_X1_get ml4_29 np_X1_get rfl rfl hk8o rfl (Nat.le_of_ble_eq_true rfl) (Nat.le_of_ble_eq_true rfl) rfl (k_X1_get (d + 1) (T := T) (σ := σ) (a := x6) (k := i2) (c := 0) hk8o (by omega) (by decide) hw (by omega)) (fun r10 T12 σ11 gt13 hp => ?_)
      obtain ⟨v15, rfl, rfl, rfl, f14⟩ := hp
      clear gt13
      show Tn _ _ 15 T σ [(0, .ref a), (2, .int (iI i2))] [.int (iI v15)] _
      refine tn_bipush dX4_addFrames_15 (by decide) ?_
      refine tn_icmp_eq (tgt := 26) dX4_addFrames_17 (by decide) ⟨by omega, by omega⟩ ⟨by decide, by decide⟩ (fun h16 => ?_) (fun h16 => ?_)
      · exact tn_sub [0, 1] rfl (hx_26 (i2) (by omega))
      · refine tn_iinc (q0 := 1) (L' := [(2, .int (iI (i2 + (-1)))), (0, .ref a)]) dX4_addFrames_20 rfl (by decide) rfl ?_
        refine tn_goto (tgt := 2) dX4_addFrames_23 (by decide) ?_
        exact tn_sub [1, 0] rfl (ih _ (by omega) (i2 + (-1)) (by omega) rfl)
theorem fl4_66 : Cond.fieldLink RX4 66 (TX1 5).1 (TX1 5).2.1 (TX1 5).2.2.1 ∈ pWW := pw1 (List.mem_of_getElem? (i := 104) rfl) rfl
theorem fl4_125 : Cond.fieldLink RX4 125 (TX1 6).1 (TX1 6).2.1 (TX1 6).2.2.1 ∈ pWW := pw1 (List.mem_of_getElem? (i := 108) rfl) rfl
theorem nl4_81 : (RX4, 81, yX11_put, "LineKeeper") ∈ nst_M := List.mem_of_getElem? (i := 37) rfl
theorem fl4_132 : Cond.fieldLink RX4 132 (TX1 7).1 (TX1 7).2.1 (TX1 7).2.2.1 ∈ pWW := pw1 (List.mem_of_getElem? (i := 112) rfl) rfl
theorem fl4_135 : Cond.fieldLink RX4 135 (TX1 8).1 (TX1 8).2.1 (TX1 8).2.2.1 ∈ pWW := pw1 (List.mem_of_getElem? (i := 116) rfl) rfl
theorem fl4_138 : Cond.fieldLink RX4 138 (TX1 9).1 (TX1 9).2.1 (TX1 9).2.2.1 ∈ pWW := pw1 (List.mem_of_getElem? (i := 119) rfl) rfl
theorem fl4_141 : Cond.fieldLink RX4 141 (TX1 10).1 (TX1 10).2.1 (TX1 10).2.2.1 ∈ pWW := pw1 (List.mem_of_getElem? (i := 124) rfl) rfl
theorem dX4_addFrames_26 : decode cX4_addFrames 26 = .ok (.iconst 0, 1) := by decide +kernel
theorem dX4_addFrames_27 : decode cX4_addFrames 27 = .ok (.istore_n 3, 1) := by decide +kernel
theorem dX4_addFrames_28 : decode cX4_addFrames 28 = .ok (.iload_n 3, 1) := by decide +kernel
theorem dX4_addFrames_29 : decode cX4_addFrames 29 = .ok (.aload_n 0, 1) := by decide +kernel
theorem dX4_addFrames_30 : decode cX4_addFrames 30 = .ok (.getfield 33, 3) := by decide +kernel
theorem dX4_addFrames_33 : decode cX4_addFrames 33 = .ok (.getfield 66, 3) := by decide +kernel
theorem dX4_addFrames_36 : decode cX4_addFrames 36 = .ok (.if_icmp .ge 204, 3) := by decide +kernel
theorem dX4_addFrames_39 : decode cX4_addFrames 39 = .ok (.aload_n 0, 1) := by decide +kernel
theorem dX4_addFrames_40 : decode cX4_addFrames 40 = .ok (.getfield 69, 3) := by decide +kernel
theorem dX4_addFrames_43 : decode cX4_addFrames 43 = .ok (.iload_n 3, 1) := by decide +kernel
theorem dX4_addFrames_44 : decode cX4_addFrames 44 = .ok (.iadd, 1) := by decide +kernel
theorem dX4_addFrames_45 : decode cX4_addFrames 45 = .ok (.istore 4, 2) := by decide +kernel
theorem dX4_addFrames_47 : decode cX4_addFrames 47 = .ok (.aload_n 0, 1) := by decide +kernel
theorem dX4_addFrames_48 : decode cX4_addFrames 48 = .ok (.getfield 19, 3) := by decide +kernel
theorem dX4_addFrames_51 : decode cX4_addFrames 51 = .ok (.getfield 125, 3) := by decide +kernel
theorem dX4_addFrames_54 : decode cX4_addFrames 54 = .ok (.iload 4, 2) := by decide +kernel
theorem dX4_addFrames_56 : decode cX4_addFrames 56 = .ok (.aload_n 0, 1) := by decide +kernel
theorem dX4_addFrames_57 : decode cX4_addFrames 57 = .ok (.getfield 33, 3) := by decide +kernel
theorem dX4_addFrames_60 : decode cX4_addFrames 60 = .ok (.getfield 125, 3) := by decide +kernel
theorem dX4_addFrames_63 : decode cX4_addFrames 63 = .ok (.iload_n 3, 1) := by decide +kernel
theorem dX4_addFrames_64 : decode cX4_addFrames 64 = .ok (.invokestatic 128, 3) := by decide +kernel
theorem dX4_addFrames_67 : decode cX4_addFrames 67 = .ok (.invokestatic 81, 3) := by decide +kernel
theorem dX4_addFrames_70 : decode cX4_addFrames 70 = .ok (.aload_n 0, 1) := by decide +kernel
theorem dX4_addFrames_71 : decode cX4_addFrames 71 = .ok (.getfield 19, 3) := by decide +kernel
theorem dX4_addFrames_74 : decode cX4_addFrames 74 = .ok (.getfield 132, 3) := by decide +kernel
theorem dX4_addFrames_77 : decode cX4_addFrames 77 = .ok (.iload 4, 2) := by decide +kernel
theorem dX4_addFrames_79 : decode cX4_addFrames 79 = .ok (.iload_n 3, 1) := by decide +kernel
theorem dX4_addFrames_80 : decode cX4_addFrames 80 = .ok (.ifCond .ne 15, 3) := by decide +kernel
theorem dX4_addFrames_95 : decode cX4_addFrames 95 = .ok (.aload_n 0, 1) := by decide +kernel
theorem dX4_addFrames_96 : decode cX4_addFrames 96 = .ok (.getfield 69, 3) := by decide +kernel
theorem dX4_addFrames_99 : decode cX4_addFrames 99 = .ok (.aload_n 0, 1) := by decide +kernel
theorem dX4_addFrames_100 : decode cX4_addFrames 100 = .ok (.getfield 33, 3) := by decide +kernel
theorem dX4_addFrames_103 : decode cX4_addFrames 103 = .ok (.getfield 132, 3) := by decide +kernel
theorem dX4_addFrames_106 : decode cX4_addFrames 106 = .ok (.iload_n 3, 1) := by decide +kernel
theorem dX4_addFrames_107 : decode cX4_addFrames 107 = .ok (.invokestatic 128, 3) := by decide +kernel
theorem dX4_addFrames_110 : decode cX4_addFrames 110 = .ok (.iadd, 1) := by decide +kernel
theorem dX4_addFrames_111 : decode cX4_addFrames 111 = .ok (.invokestatic 81, 3) := by decide +kernel
theorem dX4_addFrames_114 : decode cX4_addFrames 114 = .ok (.aload_n 0, 1) := by decide +kernel
theorem dX4_addFrames_115 : decode cX4_addFrames 115 = .ok (.getfield 19, 3) := by decide +kernel
theorem dX4_addFrames_118 : decode cX4_addFrames 118 = .ok (.getfield 135, 3) := by decide +kernel
theorem dX4_addFrames_121 : decode cX4_addFrames 121 = .ok (.iload 4, 2) := by decide +kernel
theorem dX4_addFrames_123 : decode cX4_addFrames 123 = .ok (.iload_n 3, 1) := by decide +kernel
theorem dX4_addFrames_124 : decode cX4_addFrames 124 = .ok (.ifCond .ne 15, 3) := by decide +kernel
theorem dX4_addFrames_139 : decode cX4_addFrames 139 = .ok (.aload_n 0, 1) := by decide +kernel
theorem dX4_addFrames_140 : decode cX4_addFrames 140 = .ok (.getfield 33, 3) := by decide +kernel
theorem dX4_addFrames_143 : decode cX4_addFrames 143 = .ok (.getfield 135, 3) := by decide +kernel
theorem dX4_addFrames_146 : decode cX4_addFrames 146 = .ok (.iload_n 3, 1) := by decide +kernel
theorem dX4_addFrames_147 : decode cX4_addFrames 147 = .ok (.invokestatic 128, 3) := by decide +kernel
theorem dX4_addFrames_150 : decode cX4_addFrames 150 = .ok (.invokestatic 81, 3) := by decide +kernel
theorem dX4_addFrames_153 : decode cX4_addFrames 153 = .ok (.aload_n 0, 1) := by decide +kernel
theorem dX4_addFrames_154 : decode cX4_addFrames 154 = .ok (.getfield 19, 3) := by decide +kernel
theorem dX4_addFrames_157 : decode cX4_addFrames 157 = .ok (.getfield 138, 3) := by decide +kernel
theorem dX4_addFrames_160 : decode cX4_addFrames 160 = .ok (.iload 4, 2) := by decide +kernel
theorem dX4_addFrames_162 : decode cX4_addFrames 162 = .ok (.aload_n 0, 1) := by decide +kernel
theorem dX4_addFrames_163 : decode cX4_addFrames 163 = .ok (.getfield 33, 3) := by decide +kernel
theorem dX4_addFrames_166 : decode cX4_addFrames 166 = .ok (.getfield 138, 3) := by decide +kernel
theorem dX4_addFrames_169 : decode cX4_addFrames 169 = .ok (.iload_n 3, 1) := by decide +kernel
theorem dX4_addFrames_170 : decode cX4_addFrames 170 = .ok (.invokestatic 128, 3) := by decide +kernel
theorem dX4_addFrames_173 : decode cX4_addFrames 173 = .ok (.invokestatic 81, 3) := by decide +kernel
theorem dX4_addFrames_176 : decode cX4_addFrames 176 = .ok (.iconst 0, 1) := by decide +kernel
theorem dX4_addFrames_177 : decode cX4_addFrames 177 = .ok (.istore 5, 2) := by decide +kernel
theorem dX4_addFrames_179 : decode cX4_addFrames 179 = .ok (.iload 5, 2) := by decide +kernel
theorem dX4_addFrames_181 : decode cX4_addFrames 181 = .ok (.aload_n 0, 1) := by decide +kernel
theorem dX4_addFrames_182 : decode cX4_addFrames 182 = .ok (.getfield 33, 3) := by decide +kernel
theorem dX4_addFrames_185 : decode cX4_addFrames 185 = .ok (.getfield 138, 3) := by decide +kernel
theorem dX4_addFrames_188 : decode cX4_addFrames 188 = .ok (.iload_n 3, 1) := by decide +kernel
theorem dX4_addFrames_189 : decode cX4_addFrames 189 = .ok (.invokestatic 128, 3) := by decide +kernel
theorem dX4_addFrames_192 : decode cX4_addFrames 192 = .ok (.if_icmp .ge 42, 3) := by decide +kernel
theorem dX4_addFrames_195 : decode cX4_addFrames 195 = .ok (.aload_n 0, 1) := by decide +kernel
theorem dX4_addFrames_196 : decode cX4_addFrames 196 = .ok (.getfield 19, 3) := by decide +kernel
theorem dX4_addFrames_199 : decode cX4_addFrames 199 = .ok (.getfield 141, 3) := by decide +kernel
theorem dX4_addFrames_202 : decode cX4_addFrames 202 = .ok (.iload 4, 2) := by decide +kernel
theorem dX4_addFrames_204 : decode cX4_addFrames 204 = .ok (.bipush 12, 2) := by decide +kernel
theorem dX4_addFrames_206 : decode cX4_addFrames 206 = .ok (.imul, 1) := by decide +kernel
theorem dX4_addFrames_207 : decode cX4_addFrames 207 = .ok (.iload 5, 2) := by decide +kernel
theorem dX4_addFrames_209 : decode cX4_addFrames 209 = .ok (.iadd, 1) := by decide +kernel
theorem dX4_addFrames_210 : decode cX4_addFrames 210 = .ok (.aload_n 0, 1) := by decide +kernel
theorem dX4_addFrames_211 : decode cX4_addFrames 211 = .ok (.getfield 57, 3) := by decide +kernel
theorem dX4_addFrames_214 : decode cX4_addFrames 214 = .ok (.aload_n 0, 1) := by decide +kernel
theorem dX4_addFrames_215 : decode cX4_addFrames 215 = .ok (.getfield 33, 3) := by decide +kernel
theorem dX4_addFrames_218 : decode cX4_addFrames 218 = .ok (.iload_n 3, 1) := by decide +kernel
theorem dX4_addFrames_219 : decode cX4_addFrames 219 = .ok (.iload 5, 2) := by decide +kernel
theorem dX4_addFrames_221 : decode cX4_addFrames 221 = .ok (.invokevirtual 122, 3) := by decide +kernel
theorem dX4_addFrames_224 : decode cX4_addFrames 224 = .ok (.iadd, 1) := by decide +kernel
theorem dX4_addFrames_225 : decode cX4_addFrames 225 = .ok (.invokestatic 81, 3) := by decide +kernel
theorem dX4_addFrames_228 : decode cX4_addFrames 228 = .ok (.iinc 5 1, 3) := by decide +kernel
theorem dX4_addFrames_231 : decode cX4_addFrames 231 = .ok (.goto (-52), 3) := by decide +kernel
set_option maxRecDepth 20000 in
theorem l_X4_addFrames_179 (d : Nat) {T : CT} {σ0 : MS} {a : Nat} {c2 : Int} {c3 : Int} {c4 : Int} {post : Option Value → CT → MS → Prop} (h_a : OB T a 4) (r_c2 : -2147483648 ≤ c2 ∧ c2 ≤ 2147483647) (r_c3 : 0 ≤ c3 ∧ c3 ≤ 2147483647) (r_c4 : -2147483648 ≤ c4 ∧ c4 ≤ 2147483647) (hw0 : WT T σ0) (hh : 0 ≤ σ0.2.1 25 a) (hg : 0 ≤ σ0.2.1 26 a) (hx_234 : ∀ (i5 : Int) (σ : MS) , (WT T σ) → (FrC T [] σ0 σ) → (0 ≤ i5 ∧ i5 ≤ 2147483647) → Tn (d + 3) m_X4_addFrames 234 T σ [(0, .ref a), (2, .int (iI c2)), (3, .int (iI c3)), (4, .int (iI c4)), (5, .int (iI i5))] [] post) : ∀ (n : Nat) (i5 : Int) (σ : MS) , (WT T σ) → (FrC T [] σ0 σ) → (0 ≤ i5 ∧ i5 ≤ 2147483647) → (2147483700 - i5).toNat = n → Tn (d + 3) m_X4_addFrames 179 T σ [(0, .ref a), (2, .int (iI c2)), (3, .int (iI c3)), (4, .int (iI c4)), (5, .int (iI i5))] [] post := by
  intro n
  induction n using Nat.strongRecOn with
  | _ n ih =>
    intro i5 σ hw hF r_i5 hm
    refine tn_iload dX4_addFrames_179 4 rfl ?_
    refine tn_aload_n dX4_addFrames_181 rfl 0 rfl ?_
    have nn8 : 0 ≤ σ0.2.1 26 a := (by omega)
    obtain ⟨x5, hx6, hk7⟩ := (wf_26 hw0 h_a).resolve_left (by omega)
    have hk7o : OB T x5 1 := ⟨by omega, by rw [hk7]; rfl, by omega⟩
    refine tn_getR (ci := 4) (i := 3) (n := 26) (x := x5) dX4_addFrames_182 rfl lay_4 (by decide) fl4_33 h_a rfl rfl (rc_F hF (Or.inl (by decide)) (by decide) (hx6)) ?_
    obtain ⟨x9, hx10, hk11, hl12⟩ : ∃ x : Nat, σ0.2.1 14 x5 = (x : Int) ∧ AR T x 11 12 12 := wf_14 hw0 hk7o
    have hk11i : IA T x9 := by unfold IA; omega
    refine tn_getR (ci := 1) (i := 9) (n := 14) (x := x9) dX4_addFrames_185 rfl lay_1 (by decide) fl4_138 hk7o rfl rfl (rc_F hF (Or.inl (by decide)) (by decide) (hx10)) ?_
    refine tn_iload_n dX4_addFrames_188 rfl 2 rfl ?_
    refine tn_callSN (M := m_X4_addFrames) (pc := 189) (ix := 128) (M' := m_X11_at) (As := [.ref x9, .int (iI c3)]) (rest := [.int (iI i5)]) dX4_addFrames_189 ok_X11_at stt_X11_at nl4_128 np_X11_at rfl (Nat.le_of_ble_eq_true rfl) (Nat.le_of_ble_eq_true rfl) rfl (k_X11_at (d + 1) (T := T) (σ := σ) (x := x9) (i := c3) hk11i (by omega) (by omega) hw ) (fun r13 T15 σ14 gt16 hp => ?_)
    obtain ⟨v20, rfl, rfl, rfl, f17, f18, f19⟩ := hp
    clear gt16
    have f18n := f18.2.1 hk11
    clear f18 f19
    show Tn _ _ 192 T σ [(0, .ref a), (2, .int (iI c2)), (3, .int (iI c3)), (4, .int (iI c4)), (5, .int (iI i5))] [.int (iI v20), .int (iI i5)] _
    refine tn_icmp_ge (tgt := 234) dX4_addFrames_192 (by decide) ⟨by omega, by omega⟩ ⟨by omega, by omega⟩ (fun h21 => ?_) (fun h21 => ?_)
    · exact tn_sub [0, 1, 2, 3, 4] rfl (hx_234 (i5) σ hw (FrC.rfl.trans (FrC.sub hF (by decide))) (by omega))
    · refine tn_aload_n dX4_addFrames_195 rfl 0 rfl ?_
      have nn29 : 0 ≤ σ0.2.1 25 a := (by omega)
      obtain ⟨x26, hx27, hk28⟩ := (wf_25 hw0 h_a).resolve_left (by omega)
      have hk28o : OB T x26 1 := ⟨by omega, by rw [hk28]; rfl, by omega⟩
      refine tn_getR (ci := 4) (i := 2) (n := 25) (x := x26) dX4_addFrames_196 rfl lay_4 (by decide) fl4_19 h_a rfl rfl (rc_F hF (Or.inl (by decide)) (by decide) (hx27)) ?_
      obtain ⟨x30, hx31, hk32, hl33⟩ : ∃ x : Nat, σ0.2.1 15 x26 = (x : Int) ∧ AR T x 1 144 144 := wf_15 hw0 hk28o
      have hk32i : IA T x30 := by unfold IA; omega
      refine tn_getR (ci := 1) (i := 10) (n := 15) (x := x30) dX4_addFrames_199 rfl lay_1 (by decide) fl4_141 hk28o rfl rfl (rc_F hF (Or.inl (by decide)) (by decide) (hx31)) ?_
      refine tn_iload dX4_addFrames_202 3 rfl ?_
      refine tn_bipush dX4_addFrames_204 (by decide) ?_
      refine tn_imul dX4_addFrames_206 ?_
      refine tn_any (fun z34 g35 => ?_)
      have g35r : -2147483648 ≤ z34 ∧ z34 ≤ 2147483647 := g35
      refine tn_iload dX4_addFrames_207 4 rfl ?_
      refine tn_iadd dX4_addFrames_209 ?_
      refine tn_any (fun z36 g37 => ?_)
      have g37r : -2147483648 ≤ z36 ∧ z36 ≤ 2147483647 := g37
      refine tn_aload_n dX4_addFrames_210 rfl 0 rfl ?_
      refine tn_getI (ci := 4) (i := 4) (n := 27) (t := σ0.2.1 27 a) dX4_addFrames_211 rfl lay_4 (by decide) fl4_57 h_a rfl rfl (rc_F hF (Or.inl (by decide)) (by decide) (rfl)) ?_
      have g38 : ((-2147483648 : Int) ≤ σ0.2.1 27 a ∧ σ0.2.1 27 a ≤ 2147483647) := wf_27 hw0 h_a
      refine tn_aload_n dX4_addFrames_214 rfl 0 rfl ?_
      refine tn_getR (ci := 4) (i := 3) (n := 26) (x := x5) dX4_addFrames_215 rfl lay_4 (by decide) fl4_33 h_a rfl rfl (rc_F hF (Or.inl (by decide)) (by decide) (hx6)) ?_
      refine tn_iload_n dX4_addFrames_218 rfl 2 rfl ?_
      refine tn_iload dX4_addFrames_219 4 rfl ?_
      refine tn_callV (M := m_X4_addFrames) (pc := 221) (ix := 122) (ci := 1) (M' := m_X1_homeOf) (As := [.int (iI c3), .int (iI i5)]) (rest := [.int (iI (σ0.2.1 27 a)), .int (iI z36), .ref x30]) dX4_addFrames_221 ok_X1_homeOf im_X1_homeOf se_X1_homeOf ml4_122 np_X1_homeOf rfl rfl hk7o rfl (Nat.le_of_ble_eq_true rfl) (Nat.le_of_ble_eq_true rfl) rfl (k_X1_homeOf (d) (T := T) (σ := σ) (a := x5) (f := c3) (m := i5) hk7o (by omega) (by omega) hw ) (fun r39 T41 σ40 gt42 hp => ?_)
      obtain ⟨v44, rfl, rfl, rfl, f43⟩ := hp
      clear gt42
      show Tn _ _ 224 T σ [(0, .ref a), (2, .int (iI c2)), (3, .int (iI c3)), (4, .int (iI c4)), (5, .int (iI i5))] [.int (iI v44), .int (iI (σ0.2.1 27 a)), .int (iI z36), .ref x30] _
      refine tn_iadd dX4_addFrames_224 ?_
      refine tn_any (fun z45 g46 => ?_)
      have g46r : -2147483648 ≤ z45 ∧ z45 ≤ 2147483647 := g46
      refine tn_callSN (M := m_X4_addFrames) (pc := 225) (ix := 81) (M' := m_X11_put) (As := [.ref x30, .int (iI z36), .int (iI z45)]) (rest := []) dX4_addFrames_225 ok_X11_put stt_X11_put nl4_81 np_X11_put rfl (Nat.le_of_ble_eq_true rfl) (Nat.le_of_ble_eq_true rfl) rfl (k_X11_put (d + 1) (T := T) (σ := σ) (x := x30) (i := z36) (y := z45) hk32i (by omega) (by omega) (by omega) hw (nh_k hk32 (by unfold HT; omega)) (vok_1 (by have q9 := hk32; omega) (by omega))) (fun r47 T49 σ48 gt50 hp => ?_)
      obtain ⟨rfl, rfl, w52, F53⟩ := hp
      clear gt50
      show Tn _ _ 228 T σ48 [(0, .ref a), (2, .int (iI c2)), (3, .int (iI c3)), (4, .int (iI c4)), (5, .int (iI i5))] [] _
      refine tn_iinc (q0 := 4) (L' := [(5, .int (iI (i5 + 1))), (0, .ref a), (2, .int (iI c2)), (3, .int (iI c3)), (4, .int (iI c4))]) dX4_addFrames_228 rfl (by decide) rfl ?_
      refine tn_goto (tgt := 179) dX4_addFrames_231 (by decide) ?_
      exact tn_sub [1, 2, 3, 4, 0] rfl (ih _ (by omega) (i5 + 1) σ48 w52 ((FrC.rfl.trans (FrC.sub hF (by decide))).trans (FrC.sub F53 (by decide))) (by omega) rfl)
theorem dX4_addFrames_234 : decode cX4_addFrames 234 = .ok (.iinc 3 1, 3) := by decide +kernel
theorem dX4_addFrames_237 : decode cX4_addFrames 237 = .ok (.goto (-209), 3) := by decide +kernel
theorem dX4_addFrames_83 : decode cX4_addFrames 83 = .ok (.aload_n 0, 1) := by decide +kernel
theorem dX4_addFrames_84 : decode cX4_addFrames 84 = .ok (.getfield 19, 3) := by decide +kernel
theorem dX4_addFrames_87 : decode cX4_addFrames 87 = .ok (.iload_n 2, 1) := by decide +kernel
theorem dX4_addFrames_88 : decode cX4_addFrames 88 = .ok (.iconst 2, 1) := by decide +kernel
theorem dX4_addFrames_89 : decode cX4_addFrames 89 = .ok (.invokevirtual 29, 3) := by decide +kernel
theorem dX4_addFrames_92 : decode cX4_addFrames 92 = .ok (.goto 19, 3) := by decide +kernel
theorem dX4_addFrames_127 : decode cX4_addFrames 127 = .ok (.aload_n 0, 1) := by decide +kernel
theorem dX4_addFrames_128 : decode cX4_addFrames 128 = .ok (.getfield 19, 3) := by decide +kernel
theorem dX4_addFrames_131 : decode cX4_addFrames 131 = .ok (.iload_n 2, 1) := by decide +kernel
theorem dX4_addFrames_132 : decode cX4_addFrames 132 = .ok (.iconst 1, 1) := by decide +kernel
theorem dX4_addFrames_133 : decode cX4_addFrames 133 = .ok (.invokevirtual 29, 3) := by decide +kernel
theorem dX4_addFrames_136 : decode cX4_addFrames 136 = .ok (.goto 14, 3) := by decide +kernel
set_option maxRecDepth 20000 in
theorem l_X4_addFrames_28 (d : Nat) {T : CT} {σ0 : MS} {a : Nat} {c2 : Int} {post : Option Value → CT → MS → Prop} (h_a : OB T a 4) (r_c2 : -2147483648 ≤ c2 ∧ c2 ≤ 2147483647) (hw0 : WT T σ0) (hh : 0 ≤ σ0.2.1 25 a) (hg : 0 ≤ σ0.2.1 26 a) (hx_240 : ∀ (i3 : Int) (σ : MS) , (WT T σ) → (FrC T [] σ0 σ) → (0 ≤ i3 ∧ i3 ≤ 2147483647) → Tn (d + 3) m_X4_addFrames 240 T σ [(0, .ref a), (2, .int (iI c2)), (3, .int (iI i3))] [] post) : ∀ (n : Nat) (i3 : Int) (σ : MS) , (WT T σ) → (FrC T [] σ0 σ) → (0 ≤ i3 ∧ i3 ≤ 2147483647) → (2147483700 - i3).toNat = n → Tn (d + 3) m_X4_addFrames 28 T σ [(0, .ref a), (2, .int (iI c2)), (3, .int (iI i3))] [] post := by
  intro n
  induction n using Nat.strongRecOn with
  | _ n ih =>
    intro i3 σ hw hF r_i3 hm
    refine tn_iload_n dX4_addFrames_28 rfl 2 rfl ?_
    refine tn_aload_n dX4_addFrames_29 rfl 0 rfl ?_
    have nn8 : 0 ≤ σ0.2.1 26 a := (by omega)
    obtain ⟨x5, hx6, hk7⟩ := (wf_26 hw0 h_a).resolve_left (by omega)
    have hk7o : OB T x5 1 := ⟨by omega, by rw [hk7]; rfl, by omega⟩
    refine tn_getR (ci := 4) (i := 3) (n := 26) (x := x5) dX4_addFrames_30 rfl lay_4 (by decide) fl4_33 h_a rfl rfl (rc_F hF (Or.inl (by decide)) (by decide) (hx6)) ?_
    refine tn_getI (ci := 1) (i := 5) (n := 10) (t := σ0.2.1 10 x5) dX4_addFrames_33 rfl lay_1 (by decide) fl4_66 hk7o rfl rfl (rc_F hF (Or.inl (by decide)) (by decide) (rfl)) ?_
    have g9 : ((0 : Int) ≤ σ0.2.1 10 x5 ∧ σ0.2.1 10 x5 ≤ 12) := wf_10 hw0 hk7o
    refine tn_icmp_ge (tgt := 240) dX4_addFrames_36 (by decide) ⟨by omega, by omega⟩ ⟨by omega, by omega⟩ (fun h10 => ?_) (fun h10 => ?_)
    · exact tn_sub [0, 1, 2] rfl (hx_240 (i3) σ hw (FrC.rfl.trans (FrC.sub hF (by decide))) (by omega))
    · refine tn_aload_n dX4_addFrames_39 rfl 0 rfl ?_
      refine tn_getI (ci := 4) (i := 6) (n := 29) (t := σ0.2.1 29 a) dX4_addFrames_40 rfl lay_4 (by decide) fl4_69 h_a rfl rfl (rc_F hF (Or.inl (by decide)) (by decide) (rfl)) ?_
      have g11 : ((-2147483648 : Int) ≤ σ0.2.1 29 a ∧ σ0.2.1 29 a ≤ 2147483647) := wf_29 hw0 h_a
      refine tn_iload_n dX4_addFrames_43 rfl 2 rfl ?_
      refine tn_iadd dX4_addFrames_44 ?_
      refine tn_any (fun z12 g13 => ?_)
      have g13r : -2147483648 ≤ z12 ∧ z12 ≤ 2147483647 := g13
      refine tn_istore (L' := [(4, .int (iI z12)), (0, .ref a), (2, .int (iI c2)), (3, .int (iI i3))]) dX4_addFrames_45 (by decide) rfl ?_
      refine tn_aload_n dX4_addFrames_47 rfl 1 rfl ?_
      have nn21 : 0 ≤ σ0.2.1 25 a := (by omega)
      obtain ⟨x18, hx19, hk20⟩ := (wf_25 hw0 h_a).resolve_left (by omega)
      have hk20o : OB T x18 1 := ⟨by omega, by rw [hk20]; rfl, by omega⟩
      refine tn_getR (ci := 4) (i := 2) (n := 25) (x := x18) dX4_addFrames_48 rfl lay_4 (by decide) fl4_19 h_a rfl rfl (rc_F hF (Or.inl (by decide)) (by decide) (hx19)) ?_
      obtain ⟨x22, hx23, hk24, hl25⟩ : ∃ x : Nat, σ0.2.1 11 x18 = (x : Int) ∧ AR T x 1 12 12 := wf_11 hw0 hk20o
      have hk24i : IA T x22 := by unfold IA; omega
      refine tn_getR (ci := 1) (i := 6) (n := 11) (x := x22) dX4_addFrames_51 rfl lay_1 (by decide) fl4_125 hk20o rfl rfl (rc_F hF (Or.inl (by decide)) (by decide) (hx23)) ?_
      refine tn_iload dX4_addFrames_54 0 rfl ?_
      refine tn_aload_n dX4_addFrames_56 rfl 1 rfl ?_
      refine tn_getR (ci := 4) (i := 3) (n := 26) (x := x5) dX4_addFrames_57 rfl lay_4 (by decide) fl4_33 h_a rfl rfl (rc_F hF (Or.inl (by decide)) (by decide) (hx6)) ?_
      obtain ⟨x26, hx27, hk28, hl29⟩ : ∃ x : Nat, σ0.2.1 11 x5 = (x : Int) ∧ AR T x 1 12 12 := wf_11 hw0 hk7o
      have hk28i : IA T x26 := by unfold IA; omega
      refine tn_getR (ci := 1) (i := 6) (n := 11) (x := x26) dX4_addFrames_60 rfl lay_1 (by decide) fl4_125 hk7o rfl rfl (rc_F hF (Or.inl (by decide)) (by decide) (hx27)) ?_
      refine tn_iload_n dX4_addFrames_63 rfl 3 rfl ?_
      refine tn_callSN (M := m_X4_addFrames) (pc := 64) (ix := 128) (M' := m_X11_at) (As := [.ref x26, .int (iI i3)]) (rest := [.int (iI z12), .ref x22]) dX4_addFrames_64 ok_X11_at stt_X11_at nl4_128 np_X11_at rfl (Nat.le_of_ble_eq_true rfl) (Nat.le_of_ble_eq_true rfl) rfl (k_X11_at (d + 1) (T := T) (σ := σ) (x := x26) (i := i3) hk28i (by omega) (by omega) hw ) (fun r30 T32 σ31 gt33 hp => ?_)
      obtain ⟨v37, rfl, rfl, rfl, f34, f35, f36⟩ := hp
      clear gt33
      clear f35 f36
      show Tn _ _ 67 T σ [(4, .int (iI z12)), (0, .ref a), (2, .int (iI c2)), (3, .int (iI i3))] [.int (iI v37), .int (iI z12), .ref x22] _
      refine tn_callSN (M := m_X4_addFrames) (pc := 67) (ix := 81) (M' := m_X11_put) (As := [.ref x22, .int (iI z12), .int (iI v37)]) (rest := []) dX4_addFrames_67 ok_X11_put stt_X11_put nl4_81 np_X11_put rfl (Nat.le_of_ble_eq_true rfl) (Nat.le_of_ble_eq_true rfl) rfl (k_X11_put (d + 1) (T := T) (σ := σ) (x := x22) (i := z12) (y := v37) hk24i (by omega) (by omega) (by omega) hw (nh_k hk24 (by unfold HT; omega)) (vok_1 (by have q9 := hk24; omega) (by omega))) (fun r38 T40 σ39 gt41 hp => ?_)
      obtain ⟨rfl, rfl, w43, F44⟩ := hp
      clear gt41
      show Tn _ _ 70 T σ39 [(4, .int (iI z12)), (0, .ref a), (2, .int (iI c2)), (3, .int (iI i3))] [] _
      refine tn_aload_n dX4_addFrames_70 rfl 1 rfl ?_
      refine tn_getR (ci := 4) (i := 2) (n := 25) (x := x18) dX4_addFrames_71 rfl lay_4 (by decide) fl4_19 h_a rfl rfl (rc_F F44 (Or.inl (by decide)) (by decide) (rc_F hF (Or.inl (by decide)) (by decide) (hx19))) ?_
      obtain ⟨x45, hx46, hk47, hl48⟩ : ∃ x : Nat, σ0.2.1 12 x18 = (x : Int) ∧ AR T x 1 12 12 := wf_12 hw0 hk20o
      have hk47i : IA T x45 := by unfold IA; omega
      refine tn_getR (ci := 1) (i := 7) (n := 12) (x := x45) dX4_addFrames_74 rfl lay_1 (by decide) fl4_132 hk20o rfl rfl (rc_F F44 (Or.inl (by decide)) (by decide) (rc_F hF (Or.inl (by decide)) (by decide) (hx46))) ?_
      refine tn_iload dX4_addFrames_77 0 rfl ?_
      refine tn_iload_n dX4_addFrames_79 rfl 3 rfl ?_
      refine tn_if_ne (tgt := 95) dX4_addFrames_80 (by decide) ⟨by omega, by omega⟩ (fun h49 => ?_) (fun h49 => ?_)
      · refine tn_aload_n dX4_addFrames_95 rfl 1 rfl ?_
        refine tn_getI (ci := 4) (i := 6) (n := 29) (t := σ0.2.1 29 a) dX4_addFrames_96 rfl lay_4 (by decide) fl4_69 h_a rfl rfl (rc_F F44 (Or.inl (by decide)) (by decide) (rc_F hF (Or.inl (by decide)) (by decide) (rfl))) ?_
        refine tn_aload_n dX4_addFrames_99 rfl 1 rfl ?_
        refine tn_getR (ci := 4) (i := 3) (n := 26) (x := x5) dX4_addFrames_100 rfl lay_4 (by decide) fl4_33 h_a rfl rfl (rc_F F44 (Or.inl (by decide)) (by decide) (rc_F hF (Or.inl (by decide)) (by decide) (hx6))) ?_
        obtain ⟨x50, hx51, hk52, hl53⟩ : ∃ x : Nat, σ0.2.1 12 x5 = (x : Int) ∧ AR T x 1 12 12 := wf_12 hw0 hk7o
        have hk52i : IA T x50 := by unfold IA; omega
        refine tn_getR (ci := 1) (i := 7) (n := 12) (x := x50) dX4_addFrames_103 rfl lay_1 (by decide) fl4_132 hk7o rfl rfl (rc_F F44 (Or.inl (by decide)) (by decide) (rc_F hF (Or.inl (by decide)) (by decide) (hx51))) ?_
        refine tn_iload_n dX4_addFrames_106 rfl 3 rfl ?_
        refine tn_callSN (M := m_X4_addFrames) (pc := 107) (ix := 128) (M' := m_X11_at) (As := [.ref x50, .int (iI i3)]) (rest := [.int (iI (σ0.2.1 29 a)), .int (iI z12), .ref x45]) dX4_addFrames_107 ok_X11_at stt_X11_at nl4_128 np_X11_at rfl (Nat.le_of_ble_eq_true rfl) (Nat.le_of_ble_eq_true rfl) rfl (k_X11_at (d + 1) (T := T) (σ := σ39) (x := x50) (i := i3) hk52i (by omega) (by omega) w43 ) (fun r54 T56 σ55 gt57 hp => ?_)
        obtain ⟨v61, rfl, rfl, rfl, f58, f59, f60⟩ := hp
        clear gt57
        clear f59 f60
        show Tn _ _ 110 T σ39 [(4, .int (iI z12)), (0, .ref a), (2, .int (iI c2)), (3, .int (iI i3))] [.int (iI v61), .int (iI (σ0.2.1 29 a)), .int (iI z12), .ref x45] _
        refine tn_iadd dX4_addFrames_110 ?_
        refine tn_any (fun z62 g63 => ?_)
        have g63r : -2147483648 ≤ z62 ∧ z62 ≤ 2147483647 := g63
        refine tn_callSN (M := m_X4_addFrames) (pc := 111) (ix := 81) (M' := m_X11_put) (As := [.ref x45, .int (iI z12), .int (iI z62)]) (rest := []) dX4_addFrames_111 ok_X11_put stt_X11_put nl4_81 np_X11_put rfl (Nat.le_of_ble_eq_true rfl) (Nat.le_of_ble_eq_true rfl) rfl (k_X11_put (d + 1) (T := T) (σ := σ39) (x := x45) (i := z12) (y := z62) hk47i (by omega) (by omega) (by omega) w43 (nh_k hk47 (by unfold HT; omega)) (vok_1 (by have q9 := hk47; omega) (by omega))) (fun r64 T66 σ65 gt67 hp => ?_)
        obtain ⟨rfl, rfl, w69, F70⟩ := hp
        clear gt67
        show Tn _ _ 114 T σ65 [(4, .int (iI z12)), (0, .ref a), (2, .int (iI c2)), (3, .int (iI i3))] [] _
        refine tn_aload_n dX4_addFrames_114 rfl 1 rfl ?_
        refine tn_getR (ci := 4) (i := 2) (n := 25) (x := x18) dX4_addFrames_115 rfl lay_4 (by decide) fl4_19 h_a rfl rfl (rc_F F70 (Or.inl (by decide)) (by decide) (rc_F F44 (Or.inl (by decide)) (by decide) (rc_F hF (Or.inl (by decide)) (by decide) (hx19)))) ?_
        obtain ⟨x71, hx72, hk73, hl74⟩ : ∃ x : Nat, σ0.2.1 13 x18 = (x : Int) ∧ AR T x 1 12 12 := wf_13 hw0 hk20o
        have hk73i : IA T x71 := by unfold IA; omega
        refine tn_getR (ci := 1) (i := 8) (n := 13) (x := x71) dX4_addFrames_118 rfl lay_1 (by decide) fl4_135 hk20o rfl rfl (rc_F F70 (Or.inl (by decide)) (by decide) (rc_F F44 (Or.inl (by decide)) (by decide) (rc_F hF (Or.inl (by decide)) (by decide) (hx72)))) ?_
        refine tn_iload dX4_addFrames_121 0 rfl ?_
        refine tn_iload_n dX4_addFrames_123 rfl 3 rfl ?_
        refine tn_if_ne (tgt := 139) dX4_addFrames_124 (by decide) ⟨by omega, by omega⟩ (fun h75 => ?_) (fun h75 => absurd h75 (by omega))
        refine tn_aload_n dX4_addFrames_139 rfl 1 rfl ?_
        refine tn_getR (ci := 4) (i := 3) (n := 26) (x := x5) dX4_addFrames_140 rfl lay_4 (by decide) fl4_33 h_a rfl rfl (rc_F F70 (Or.inl (by decide)) (by decide) (rc_F F44 (Or.inl (by decide)) (by decide) (rc_F hF (Or.inl (by decide)) (by decide) (hx6)))) ?_
        obtain ⟨x76, hx77, hk78, hl79⟩ : ∃ x : Nat, σ0.2.1 13 x5 = (x : Int) ∧ AR T x 1 12 12 := wf_13 hw0 hk7o
        have hk78i : IA T x76 := by unfold IA; omega
        refine tn_getR (ci := 1) (i := 8) (n := 13) (x := x76) dX4_addFrames_143 rfl lay_1 (by decide) fl4_135 hk7o rfl rfl (rc_F F70 (Or.inl (by decide)) (by decide) (rc_F F44 (Or.inl (by decide)) (by decide) (rc_F hF (Or.inl (by decide)) (by decide) (hx77)))) ?_
        refine tn_iload_n dX4_addFrames_146 rfl 3 rfl ?_
        refine tn_callSN (M := m_X4_addFrames) (pc := 147) (ix := 128) (M' := m_X11_at) (As := [.ref x76, .int (iI i3)]) (rest := [.int (iI z12), .ref x71]) dX4_addFrames_147 ok_X11_at stt_X11_at nl4_128 np_X11_at rfl (Nat.le_of_ble_eq_true rfl) (Nat.le_of_ble_eq_true rfl) rfl (k_X11_at (d + 1) (T := T) (σ := σ65) (x := x76) (i := i3) hk78i (by omega) (by omega) w69 ) (fun r80 T82 σ81 gt83 hp => ?_)
        obtain ⟨v87, rfl, rfl, rfl, f84, f85, f86⟩ := hp
        clear gt83
        clear f85 f86
        show Tn _ _ 150 T σ65 [(4, .int (iI z12)), (0, .ref a), (2, .int (iI c2)), (3, .int (iI i3))] [.int (iI v87), .int (iI z12), .ref x71] _
        refine tn_callSN (M := m_X4_addFrames) (pc := 150) (ix := 81) (M' := m_X11_put) (As := [.ref x71, .int (iI z12), .int (iI v87)]) (rest := []) dX4_addFrames_150 ok_X11_put stt_X11_put nl4_81 np_X11_put rfl (Nat.le_of_ble_eq_true rfl) (Nat.le_of_ble_eq_true rfl) rfl (k_X11_put (d + 1) (T := T) (σ := σ65) (x := x71) (i := z12) (y := v87) hk73i (by omega) (by omega) (by omega) w69 (nh_k hk73 (by unfold HT; omega)) (vok_1 (by have q9 := hk73; omega) (by omega))) (fun r88 T90 σ89 gt91 hp => ?_)
        obtain ⟨rfl, rfl, w93, F94⟩ := hp
        clear gt91
        show Tn _ _ 153 T σ89 [(4, .int (iI z12)), (0, .ref a), (2, .int (iI c2)), (3, .int (iI i3))] [] _
        refine tn_aload_n dX4_addFrames_153 rfl 1 rfl ?_
        refine tn_getR (ci := 4) (i := 2) (n := 25) (x := x18) dX4_addFrames_154 rfl lay_4 (by decide) fl4_19 h_a rfl rfl (rc_F F94 (Or.inl (by decide)) (by decide) (rc_F F70 (Or.inl (by decide)) (by decide) (rc_F F44 (Or.inl (by decide)) (by decide) (rc_F hF (Or.inl (by decide)) (by decide) (hx19))))) ?_
        obtain ⟨x95, hx96, hk97, hl98⟩ : ∃ x : Nat, σ0.2.1 14 x18 = (x : Int) ∧ AR T x 11 12 12 := wf_14 hw0 hk20o
        have hk97i : IA T x95 := by unfold IA; omega
        refine tn_getR (ci := 1) (i := 9) (n := 14) (x := x95) dX4_addFrames_157 rfl lay_1 (by decide) fl4_138 hk20o rfl rfl (rc_F F94 (Or.inl (by decide)) (by decide) (rc_F F70 (Or.inl (by decide)) (by decide) (rc_F F44 (Or.inl (by decide)) (by decide) (rc_F hF (Or.inl (by decide)) (by decide) (hx96))))) ?_
        refine tn_iload dX4_addFrames_160 0 rfl ?_
        refine tn_aload_n dX4_addFrames_162 rfl 1 rfl ?_
        refine tn_getR (ci := 4) (i := 3) (n := 26) (x := x5) dX4_addFrames_163 rfl lay_4 (by decide) fl4_33 h_a rfl rfl (rc_F F94 (Or.inl (by decide)) (by decide) (rc_F F70 (Or.inl (by decide)) (by decide) (rc_F F44 (Or.inl (by decide)) (by decide) (rc_F hF (Or.inl (by decide)) (by decide) (hx6))))) ?_
        obtain ⟨x99, hx100, hk101, hl102⟩ : ∃ x : Nat, σ0.2.1 14 x5 = (x : Int) ∧ AR T x 11 12 12 := wf_14 hw0 hk7o
        have hk101i : IA T x99 := by unfold IA; omega
        refine tn_getR (ci := 1) (i := 9) (n := 14) (x := x99) dX4_addFrames_166 rfl lay_1 (by decide) fl4_138 hk7o rfl rfl (rc_F F94 (Or.inl (by decide)) (by decide) (rc_F F70 (Or.inl (by decide)) (by decide) (rc_F F44 (Or.inl (by decide)) (by decide) (rc_F hF (Or.inl (by decide)) (by decide) (hx100))))) ?_
        refine tn_iload_n dX4_addFrames_169 rfl 3 rfl ?_
        refine tn_callSN (M := m_X4_addFrames) (pc := 170) (ix := 128) (M' := m_X11_at) (As := [.ref x99, .int (iI i3)]) (rest := [.int (iI z12), .ref x95]) dX4_addFrames_170 ok_X11_at stt_X11_at nl4_128 np_X11_at rfl (Nat.le_of_ble_eq_true rfl) (Nat.le_of_ble_eq_true rfl) rfl (k_X11_at (d + 1) (T := T) (σ := σ89) (x := x99) (i := i3) hk101i (by omega) (by omega) w93 ) (fun r103 T105 σ104 gt106 hp => ?_)
        obtain ⟨v110, rfl, rfl, rfl, f107, f108, f109⟩ := hp
        clear gt106
        have f108n := f108.2.1 hk101
        clear f108 f109
        show Tn _ _ 173 T σ89 [(4, .int (iI z12)), (0, .ref a), (2, .int (iI c2)), (3, .int (iI i3))] [.int (iI v110), .int (iI z12), .ref x95] _
        refine tn_callSN (M := m_X4_addFrames) (pc := 173) (ix := 81) (M' := m_X11_put) (As := [.ref x95, .int (iI z12), .int (iI v110)]) (rest := []) dX4_addFrames_173 ok_X11_put stt_X11_put nl4_81 np_X11_put rfl (Nat.le_of_ble_eq_true rfl) (Nat.le_of_ble_eq_true rfl) rfl (k_X11_put (d + 1) (T := T) (σ := σ89) (x := x95) (i := z12) (y := v110) hk97i (by omega) (by omega) (by omega) w93 (nh_k hk97 (by unfold HT; omega)) (by rw [hk97]; exact vok_11 (by omega))) (fun r111 T113 σ112 gt114 hp => ?_)
        obtain ⟨rfl, rfl, w116, F117⟩ := hp
        clear gt114
        show Tn _ _ 176 T σ112 [(4, .int (iI z12)), (0, .ref a), (2, .int (iI c2)), (3, .int (iI i3))] [] _
        refine tn_iconst dX4_addFrames_176 ?_
        refine tn_istore (L' := [(5, .int (iI 0)), (4, .int (iI z12)), (0, .ref a), (2, .int (iI c2)), (3, .int (iI i3))]) dX4_addFrames_177 (by decide) rfl ?_
        refine tn_sub [2, 3, 4, 1, 0] rfl (l_X4_addFrames_179 (d) (T := T) (σ0 := σ112) (a := a) (c2 := c2) (c3 := i3) (c4 := z12) h_a (by omega) (by omega) (by omega) w116 (by rw [show σ112.2.1 25 a = σ0.2.1 25 a from rc_F F117 (Or.inl (by decide)) (by decide) (rc_F F94 (Or.inl (by decide)) (by decide) (rc_F F70 (Or.inl (by decide)) (by decide) (rc_F F44 (Or.inl (by decide)) (by decide) (rc_F hF (Or.inl (by decide)) (by decide) (rfl)))))]; omega) (by rw [show σ112.2.1 26 a = σ0.2.1 26 a from rc_F F117 (Or.inl (by decide)) (by decide) (rc_F F94 (Or.inl (by decide)) (by decide) (rc_F F70 (Or.inl (by decide)) (by decide) (rc_F F44 (Or.inl (by decide)) (by decide) (rc_F hF (Or.inl (by decide)) (by decide) (rfl)))))]; omega) (fun i5118 σ119 w122 F123 r124 => ?_) _ (0) σ112 w116 FrC.rfl (by omega) rfl)
        show Tn _ _ 234 T σ119 [(0, .ref a), (2, .int (iI c2)), (3, .int (iI i3)), (4, .int (iI z12)), (5, .int (iI i5118))] [] _
        refine tn_iinc (q0 := 2) (L' := [(3, .int (iI (i3 + 1))), (0, .ref a), (2, .int (iI c2)), (4, .int (iI z12)), (5, .int (iI i5118))]) dX4_addFrames_234 rfl (by decide) rfl ?_
        refine tn_goto (tgt := 28) dX4_addFrames_237 (by decide) ?_
        exact tn_sub [1, 2, 0] rfl (ih _ (by omega) (i3 + 1) σ119 w122 ((((((FrC.rfl.trans (FrC.sub hF (by decide))).trans (FrC.sub F44 (by decide))).trans (FrC.sub F70 (by decide))).trans (FrC.sub F94 (by decide))).trans (FrC.sub F117 (by decide))).trans (FrC.sub F123 (by decide))) (by omega) rfl)
      · refine tn_aload_n dX4_addFrames_83 rfl 1 rfl ?_
        refine tn_getR (ci := 4) (i := 2) (n := 25) (x := x18) dX4_addFrames_84 rfl lay_4 (by decide) fl4_19 h_a rfl rfl (rc_F F44 (Or.inl (by decide)) (by decide) (rc_F hF (Or.inl (by decide)) (by decide) (hx19))) ?_
        refine tn_iload_n dX4_addFrames_87 rfl 2 rfl ?_
        refine tn_iconst dX4_addFrames_88 ?_
        refine tn_callV (M := m_X4_addFrames) (pc := 89) (ix := 29) (ci := 1) (M' := m_X1_get) (As := [.int (iI c2), .int (iI 2)]) (rest := [.int (iI z12), .ref x45]) dX4_addFrames_89 ok_X1_get im_X1_get se_X1_get ml4_29 np_X1_get rfl rfl hk20o rfl (Nat.le_of_ble_eq_true rfl) (Nat.le_of_ble_eq_true rfl) rfl (k_X1_get (d + 1) (T := T) (σ := σ39) (a := x18) (k := c2) (c := 2) hk20o (by omega) (by decide) w43 (by omega)) (fun r125 T127 σ126 gt128 hp => ?_)
        obtain ⟨v130, rfl, rfl, rfl, f129⟩ := hp
        clear gt128
        show Tn _ _ 92 T σ39 [(4, .int (iI z12)), (0, .ref a), (2, .int (iI c2)), (3, .int (iI i3))] [.int (iI v130), .int (iI z12), .ref x45] _
        refine tn_goto (tgt := 111) dX4_addFrames_92 (by decide) ?_
        refine tn_callSN (M := m_X4_addFrames) (pc := 111) (ix := 81) (M' := m_X11_put) (As := [.ref x45, .int (iI z12), .int (iI v130)]) (rest := []) dX4_addFrames_111 ok_X11_put stt_X11_put nl4_81 np_X11_put rfl (Nat.le_of_ble_eq_true rfl) (Nat.le_of_ble_eq_true rfl) rfl (k_X11_put (d + 1) (T := T) (σ := σ39) (x := x45) (i := z12) (y := v130) hk47i (by omega) (by omega) (by omega) w43 (nh_k hk47 (by unfold HT; omega)) (vok_1 (by have q9 := hk47; omega) (by omega))) (fun r131 T133 σ132 gt134 hp => ?_)
        obtain ⟨rfl, rfl, w136, F137⟩ := hp
        clear gt134
        show Tn _ _ 114 T σ132 [(4, .int (iI z12)), (0, .ref a), (2, .int (iI c2)), (3, .int (iI i3))] [] _
        refine tn_aload_n dX4_addFrames_114 rfl 1 rfl ?_
        refine tn_getR (ci := 4) (i := 2) (n := 25) (x := x18) dX4_addFrames_115 rfl lay_4 (by decide) fl4_19 h_a rfl rfl (rc_F F137 (Or.inl (by decide)) (by decide) (rc_F F44 (Or.inl (by decide)) (by decide) (rc_F hF (Or.inl (by decide)) (by decide) (hx19)))) ?_
        obtain ⟨x138, hx139, hk140, hl141⟩ : ∃ x : Nat, σ0.2.1 13 x18 = (x : Int) ∧ AR T x 1 12 12 := wf_13 hw0 hk20o
        have hk140i : IA T x138 := by unfold IA; omega
        refine tn_getR (ci := 1) (i := 8) (n := 13) (x := x138) dX4_addFrames_118 rfl lay_1 (by decide) fl4_135 hk20o rfl rfl (rc_F F137 (Or.inl (by decide)) (by decide) (rc_F F44 (Or.inl (by decide)) (by decide) (rc_F hF (Or.inl (by decide)) (by decide) (hx139)))) ?_
        refine tn_iload dX4_addFrames_121 0 rfl ?_
        refine tn_iload_n dX4_addFrames_123 rfl 3 rfl ?_
        refine tn_if_ne (tgt := 139) dX4_addFrames_124 (by decide) ⟨by omega, by omega⟩ (fun h142 => absurd h142 (by omega)) (fun h142 => ?_)
        refine tn_aload_n dX4_addFrames_127 rfl 1 rfl ?_
        refine tn_getR (ci := 4) (i := 2) (n := 25) (x := x18) dX4_addFrames_128 rfl lay_4 (by decide) fl4_19 h_a rfl rfl (rc_F F137 (Or.inl (by decide)) (by decide) (rc_F F44 (Or.inl (by decide)) (by decide) (rc_F hF (Or.inl (by decide)) (by decide) (hx19)))) ?_
        refine tn_iload_n dX4_addFrames_131 rfl 2 rfl ?_
        refine tn_iconst dX4_addFrames_132 ?_
        refine tn_callV (M := m_X4_addFrames) (pc := 133) (ix := 29) (ci := 1) (M' := m_X1_get) (As := [.int (iI c2), .int (iI 1)]) (rest := [.int (iI z12), .ref x138]) dX4_addFrames_133 ok_X1_get im_X1_get se_X1_get ml4_29 np_X1_get rfl rfl hk20o rfl (Nat.le_of_ble_eq_true rfl) (Nat.le_of_ble_eq_true rfl) rfl (k_X1_get (d + 1) (T := T) (σ := σ132) (a := x18) (k := c2) (c := 1) hk20o (by omega) (by decide) w136 (by omega)) (fun r143 T145 σ144 gt146 hp => ?_)
        obtain ⟨v148, rfl, rfl, rfl, f147⟩ := hp
        clear gt146
        show Tn _ _ 136 T σ132 [(4, .int (iI z12)), (0, .ref a), (2, .int (iI c2)), (3, .int (iI i3))] [.int (iI v148), .int (iI z12), .ref x138] _
        refine tn_goto (tgt := 150) dX4_addFrames_136 (by decide) ?_
        refine tn_callSN (M := m_X4_addFrames) (pc := 150) (ix := 81) (M' := m_X11_put) (As := [.ref x138, .int (iI z12), .int (iI v148)]) (rest := []) dX4_addFrames_150 ok_X11_put stt_X11_put nl4_81 np_X11_put rfl (Nat.le_of_ble_eq_true rfl) (Nat.le_of_ble_eq_true rfl) rfl (k_X11_put (d + 1) (T := T) (σ := σ132) (x := x138) (i := z12) (y := v148) hk140i (by omega) (by omega) (by omega) w136 (nh_k hk140 (by unfold HT; omega)) (vok_1 (by have q9 := hk140; omega) (by omega))) (fun r149 T151 σ150 gt152 hp => ?_)
        obtain ⟨rfl, rfl, w154, F155⟩ := hp
        clear gt152
        show Tn _ _ 153 T σ150 [(4, .int (iI z12)), (0, .ref a), (2, .int (iI c2)), (3, .int (iI i3))] [] _
        refine tn_aload_n dX4_addFrames_153 rfl 1 rfl ?_
        refine tn_getR (ci := 4) (i := 2) (n := 25) (x := x18) dX4_addFrames_154 rfl lay_4 (by decide) fl4_19 h_a rfl rfl (rc_F F155 (Or.inl (by decide)) (by decide) (rc_F F137 (Or.inl (by decide)) (by decide) (rc_F F44 (Or.inl (by decide)) (by decide) (rc_F hF (Or.inl (by decide)) (by decide) (hx19))))) ?_
        obtain ⟨x156, hx157, hk158, hl159⟩ : ∃ x : Nat, σ0.2.1 14 x18 = (x : Int) ∧ AR T x 11 12 12 := wf_14 hw0 hk20o
        have hk158i : IA T x156 := by unfold IA; omega
        refine tn_getR (ci := 1) (i := 9) (n := 14) (x := x156) dX4_addFrames_157 rfl lay_1 (by decide) fl4_138 hk20o rfl rfl (rc_F F155 (Or.inl (by decide)) (by decide) (rc_F F137 (Or.inl (by decide)) (by decide) (rc_F F44 (Or.inl (by decide)) (by decide) (rc_F hF (Or.inl (by decide)) (by decide) (hx157))))) ?_
        refine tn_iload dX4_addFrames_160 0 rfl ?_
        refine tn_aload_n dX4_addFrames_162 rfl 1 rfl ?_
        refine tn_getR (ci := 4) (i := 3) (n := 26) (x := x5) dX4_addFrames_163 rfl lay_4 (by decide) fl4_33 h_a rfl rfl (rc_F F155 (Or.inl (by decide)) (by decide) (rc_F F137 (Or.inl (by decide)) (by decide) (rc_F F44 (Or.inl (by decide)) (by decide) (rc_F hF (Or.inl (by decide)) (by decide) (hx6))))) ?_
        obtain ⟨x160, hx161, hk162, hl163⟩ : ∃ x : Nat, σ0.2.1 14 x5 = (x : Int) ∧ AR T x 11 12 12 := wf_14 hw0 hk7o
        have hk162i : IA T x160 := by unfold IA; omega
        refine tn_getR (ci := 1) (i := 9) (n := 14) (x := x160) dX4_addFrames_166 rfl lay_1 (by decide) fl4_138 hk7o rfl rfl (rc_F F155 (Or.inl (by decide)) (by decide) (rc_F F137 (Or.inl (by decide)) (by decide) (rc_F F44 (Or.inl (by decide)) (by decide) (rc_F hF (Or.inl (by decide)) (by decide) (hx161))))) ?_
        refine tn_iload_n dX4_addFrames_169 rfl 3 rfl ?_
        refine tn_callSN (M := m_X4_addFrames) (pc := 170) (ix := 128) (M' := m_X11_at) (As := [.ref x160, .int (iI i3)]) (rest := [.int (iI z12), .ref x156]) dX4_addFrames_170 ok_X11_at stt_X11_at nl4_128 np_X11_at rfl (Nat.le_of_ble_eq_true rfl) (Nat.le_of_ble_eq_true rfl) rfl (k_X11_at (d + 1) (T := T) (σ := σ150) (x := x160) (i := i3) hk162i (by omega) (by omega) w154 ) (fun r164 T166 σ165 gt167 hp => ?_)
        obtain ⟨v171, rfl, rfl, rfl, f168, f169, f170⟩ := hp
        clear gt167
        have f169n := f169.2.1 hk162
        clear f169 f170
        show Tn _ _ 173 T σ150 [(4, .int (iI z12)), (0, .ref a), (2, .int (iI c2)), (3, .int (iI i3))] [.int (iI v171), .int (iI z12), .ref x156] _
        refine tn_callSN (M := m_X4_addFrames) (pc := 173) (ix := 81) (M' := m_X11_put) (As := [.ref x156, .int (iI z12), .int (iI v171)]) (rest := []) dX4_addFrames_173 ok_X11_put stt_X11_put nl4_81 np_X11_put rfl (Nat.le_of_ble_eq_true rfl) (Nat.le_of_ble_eq_true rfl) rfl (k_X11_put (d + 1) (T := T) (σ := σ150) (x := x156) (i := z12) (y := v171) hk158i (by omega) (by omega) (by omega) w154 (nh_k hk158 (by unfold HT; omega)) (by rw [hk158]; exact vok_11 (by omega))) (fun r172 T174 σ173 gt175 hp => ?_)
        obtain ⟨rfl, rfl, w177, F178⟩ := hp
        clear gt175
        show Tn _ _ 176 T σ173 [(4, .int (iI z12)), (0, .ref a), (2, .int (iI c2)), (3, .int (iI i3))] [] _
        refine tn_iconst dX4_addFrames_176 ?_
        refine tn_istore (L' := [(5, .int (iI 0)), (4, .int (iI z12)), (0, .ref a), (2, .int (iI c2)), (3, .int (iI i3))]) dX4_addFrames_177 (by decide) rfl ?_
        refine tn_sub [2, 3, 4, 1, 0] rfl (l_X4_addFrames_179 (d) (T := T) (σ0 := σ173) (a := a) (c2 := c2) (c3 := i3) (c4 := z12) h_a (by omega) (by omega) (by omega) w177 (by rw [show σ173.2.1 25 a = σ0.2.1 25 a from rc_F F178 (Or.inl (by decide)) (by decide) (rc_F F155 (Or.inl (by decide)) (by decide) (rc_F F137 (Or.inl (by decide)) (by decide) (rc_F F44 (Or.inl (by decide)) (by decide) (rc_F hF (Or.inl (by decide)) (by decide) (rfl)))))]; omega) (by rw [show σ173.2.1 26 a = σ0.2.1 26 a from rc_F F178 (Or.inl (by decide)) (by decide) (rc_F F155 (Or.inl (by decide)) (by decide) (rc_F F137 (Or.inl (by decide)) (by decide) (rc_F F44 (Or.inl (by decide)) (by decide) (rc_F hF (Or.inl (by decide)) (by decide) (rfl)))))]; omega) (fun i5179 σ180 w183 F184 r185 => ?_) _ (0) σ173 w177 FrC.rfl (by omega) rfl)
        show Tn _ _ 234 T σ180 [(0, .ref a), (2, .int (iI c2)), (3, .int (iI i3)), (4, .int (iI z12)), (5, .int (iI i5179))] [] _
        refine tn_iinc (q0 := 2) (L' := [(3, .int (iI (i3 + 1))), (0, .ref a), (2, .int (iI c2)), (4, .int (iI z12)), (5, .int (iI i5179))]) dX4_addFrames_234 rfl (by decide) rfl ?_
        refine tn_goto (tgt := 28) dX4_addFrames_237 (by decide) ?_
        exact tn_sub [1, 2, 0] rfl (ih _ (by omega) (i3 + 1) σ180 w183 ((((((FrC.rfl.trans (FrC.sub hF (by decide))).trans (FrC.sub F44 (by decide))).trans (FrC.sub F137 (by decide))).trans (FrC.sub F155 (by decide))).trans (FrC.sub F178 (by decide))).trans (FrC.sub F184 (by decide))) (by omega) rfl)
theorem dX4_addFrames_240 : decode cX4_addFrames 240 = .ok (.aload_n 0, 1) := by decide +kernel
theorem dX4_addFrames_241 : decode cX4_addFrames 241 = .ok (.getfield 19, 3) := by decide +kernel
theorem dX4_addFrames_244 : decode cX4_addFrames 244 = .ok (.aload_n 0, 1) := by decide +kernel
theorem dX4_addFrames_245 : decode cX4_addFrames 245 = .ok (.getfield 69, 3) := by decide +kernel
theorem dX4_addFrames_248 : decode cX4_addFrames 248 = .ok (.aload_n 0, 1) := by decide +kernel
theorem dX4_addFrames_249 : decode cX4_addFrames 249 = .ok (.getfield 33, 3) := by decide +kernel
theorem dX4_addFrames_252 : decode cX4_addFrames 252 = .ok (.getfield 66, 3) := by decide +kernel
theorem dX4_addFrames_255 : decode cX4_addFrames 255 = .ok (.iadd, 1) := by decide +kernel
theorem dX4_addFrames_256 : decode cX4_addFrames 256 = .ok (.putfield 66, 3) := by decide +kernel
theorem dX4_addFrames_259 : decode cX4_addFrames 259 = .ok (.return_, 1) := by decide +kernel
set_option maxRecDepth 20000 in
theorem k_X4_addFrames (d : Nat) {T : CT} {σ : MS} {a : Nat} {p1 : Int} (ha : OB T a 4) (h_p1 : -2147483648 ≤ p1 ∧ p1 ≤ 2147483647) (hw : WT T σ) (hh : 0 ≤ σ.2.1 25 a) (hg : 0 ≤ σ.2.1 26 a) (hf : FRB σ a) : Tn (d + 3) m_X4_addFrames 0 T σ [(0, .ref a), (1, .int (iI p1))] [] (fun ro T2 σ2 => ro = none ∧ T = T2 ∧ WT T2 σ2 ∧ FrC T [10] σ σ2) := by
  refine tn_iload_n dX4_addFrames_0 rfl 1 rfl ?_
  refine tn_istore_n (L' := [(2, .int (iI p1)), (0, .ref a), (1, .int (iI p1))]) dX4_addFrames_1 rfl (by decide) rfl ?_
  refine tn_sub [1, 0] rfl (l_X4_addFrames_2 (d) (T := T) (σ := σ) (a := a) ha hw (by omega) (by omega) (fun i21 r7 => ?_) _ (p1) (by omega) rfl)
  show Tn _ _ 26 T σ [(0, .ref a), (2, .int (iI i21))] [] _
  refine tn_iconst dX4_addFrames_26 ?_
  refine tn_istore_n (L' := [(3, .int (iI 0)), (0, .ref a), (2, .int (iI i21))]) dX4_addFrames_27 rfl (by decide) rfl ?_
  refine tn_sub [1, 2, 0] rfl (l_X4_addFrames_28 (d) (T := T) (σ0 := σ) (a := a) (c2 := i21) ha (by omega) hw (by omega) (by omega) (fun i38 σ9 w12 F13 r14 => ?_) _ (0) σ hw FrC.rfl (by omega) rfl)
  show Tn _ _ 240 T σ9 [(0, .ref a), (2, .int (iI i21)), (3, .int (iI i38))] [] _
  refine tn_aload_n dX4_addFrames_240 rfl 0 rfl ?_
  have nn22 : 0 ≤ σ.2.1 25 a := (by omega)
  obtain ⟨x19, hx20, hk21⟩ := (wf_25 hw ha).resolve_left (by omega)
  have hk21o : OB T x19 1 := ⟨by omega, by rw [hk21]; rfl, by omega⟩
  refine tn_getR (ci := 4) (i := 2) (n := 25) (x := x19) dX4_addFrames_241 rfl lay_4 (by decide) fl4_19 ha rfl rfl (rc_F F13 (Or.inl (by decide)) (by decide) (hx20)) ?_
  refine tn_aload_n dX4_addFrames_244 rfl 0 rfl ?_
  refine tn_getI (ci := 4) (i := 6) (n := 29) (t := σ.2.1 29 a) dX4_addFrames_245 rfl lay_4 (by decide) fl4_69 ha rfl rfl (rc_F F13 (Or.inl (by decide)) (by decide) (rfl)) ?_
  have g23 : ((-2147483648 : Int) ≤ σ.2.1 29 a ∧ σ.2.1 29 a ≤ 2147483647) := wf_29 hw ha
  refine tn_aload_n dX4_addFrames_248 rfl 0 rfl ?_
  have nn31 : 0 ≤ σ.2.1 26 a := (by omega)
  obtain ⟨x28, hx29, hk30⟩ := (wf_26 hw ha).resolve_left (by omega)
  have hk30o : OB T x28 1 := ⟨by omega, by rw [hk30]; rfl, by omega⟩
  refine tn_getR (ci := 4) (i := 3) (n := 26) (x := x28) dX4_addFrames_249 rfl lay_4 (by decide) fl4_33 ha rfl rfl (rc_F F13 (Or.inl (by decide)) (by decide) (hx29)) ?_
  refine tn_getI (ci := 1) (i := 5) (n := 10) (t := σ.2.1 10 x28) dX4_addFrames_252 rfl lay_1 (by decide) fl4_66 hk30o rfl rfl (rc_F F13 (Or.inl (by decide)) (by decide) (rfl)) ?_
  have g32 : ((0 : Int) ≤ σ.2.1 10 x28 ∧ σ.2.1 10 x28 ≤ 12) := wf_10 hw hk30o
  have q33 := hf x28 hx29
  refine tn_iadd dX4_addFrames_255 ?_
  refine tn_putV (ci := 1) (i := 5) (n := 10) (r := false) (v := (σ.2.1 29 a) + (σ.2.1 10 x28)) tyX1 tyX1_ok nmX1 dX4_addFrames_256 rfl lay_1 (by decide) fl4_66 rfl (tyX1_ok 5 (by decide)) rfl rfl rfl hk21o rfl rfl ?_
  exact tn_vret rfl dX4_addFrames_259 ⟨rfl, rfl, (w12.put (by decide) (by decide) (fo_10 (by omega))), ((FrC.rfl.trans (FrC.sub F13 (by decide))).put (by decide) (by decide))⟩
