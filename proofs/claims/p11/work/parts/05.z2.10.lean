section
def FRB (σ : MS) (a : Nat) : Prop := ∀ g : Nat, σ.2.1 26 a = (g : Int) → 0 ≤ σ.2.1 29 a + σ.2.1 10 g ∧ σ.2.1 29 a + σ.2.1 10 g ≤ 12
theorem FRB.of {σ : MS} {a x : Nat} (hx : σ.2.1 26 a = (x : Int)) (h : 0 ≤ σ.2.1 29 a + σ.2.1 10 x ∧ σ.2.1 29 a + σ.2.1 10 x ≤ 12) : FRB σ a := fun g q => by
  have e : g = x := by omega
  rw [e]; exact h
theorem cd_X4_addFrames : Cond.code yX4_addFrames cX4_addFrames 6 none ∈ pWW := pw5 (List.mem_of_getElem? (i := 165) rfl) rfl
abbrev m_X4_addFrames : MT := (yX4_addFrames, cX4_addFrames, 6, none)
theorem ok_X4_addFrames : pOk m_X4_addFrames := ⟨⟨cd_X4_addFrames, ini_4⟩, by decide +kernel, ⟨by decide +kernel, by decide +kernel⟩, Nat.le_of_ble_eq_true rfl⟩
theorem np_X4_addFrames : (parseMethodDescriptor yX4_addFrames.desc).map (fun d => d.parameters.length) = some 1 := by decide +kernel
theorem im_X4_addFrames : Cond.instanceMethod yX4_addFrames ∈ pWW := pw5 (List.mem_of_getElem? (i := 164) rfl) rfl
theorem se_X4_addFrames : Cond.selects RX4 yX4_addFrames yX4_addFrames ∈ pWW := pws (List.mem_map.mpr ⟨_, lw_pin 68 rfl, rfl⟩) rfl
theorem dX4_addFrames_0 : decode cX4_addFrames 0 = .ok (.iload_n 1, 1) := by decide +kernel
theorem dX4_addFrames_1 : decode cX4_addFrames 1 = .ok (.istore_n 2, 1) := by decide +kernel
theorem dX4_addFrames_2 : decode cX4_addFrames 2 = .ok (.iload_n 2, 1) := by decide +kernel
theorem dX4_addFrames_3 : decode cX4_addFrames 3 = .ok (.ifCond .lt 23, 3) := by decide +kernel
theorem dX4_addFrames_6 : decode cX4_addFrames 6 = .ok (.aload_n 0, 1) := by decide +kernel
theorem dX4_addFrames_7 : decode cX4_addFrames 7 = .ok (.getfield 19, 3) := by decide +kernel
theorem dX4_addFrames_10 : decode cX4_addFrames 10 = .ok (.iload_n 2, 1) := by decide +kernel
theorem dX4_addFrames_11 : decode cX4_addFrames 11 = .ok (.iconst 0, 1) := by decide +kernel
theorem dX4_addFrames_12 : decode cX4_addFrames 12 = .ok (.invokevirtual 29, 3) := by decide +kernel
theorem dX4_addFrames_15 : decode cX4_addFrames 15 = .ok (.bipush 11, 2) := by decide +kernel
theorem dX4_addFrames_17 : decode cX4_addFrames 17 = .ok (.if_icmp .eq 9, 3) := by decide +kernel
theorem dX4_addFrames_20 : decode cX4_addFrames 20 = .ok (.iinc 2 (-1), 3) := by decide +kernel
theorem dX4_addFrames_23 : decode cX4_addFrames 23 = .ok (.goto (-21), 3) := by decide +kernel
set_option maxRecDepth 20000 in
theorem l_X4_addFrames_2 (d : Nat) {T : CT} {σ : MS} {a : Nat} {post : Option Value → CT → MS → Prop} (h_a : OB T a 4) (hw : WT T σ) (hh : 0 ≤ σ.2.1 25 a) (hg : 0 ≤ σ.2.1 26 a) (hx_26 : ∀ (i2 : Int) , (-2147483648 ≤ i2 ∧ i2 ≤ 2147483647) → Tn (d + 3) m_X4_addFrames 26 T σ [(0, .ref a), (2, .int (iI i2))] [] post) : ∀ (n : Nat) (i2 : Int) , (-2147483648 ≤ i2 ∧ i2 ≤ 2147483647) → (i2 + 20).toNat = n → Tn (d + 3) m_X4_addFrames 2 T σ [(0, .ref a), (2, .int (iI i2))] [] post := by
  intro n
  induction n using Nat.strongRecOn with
  | _ n ih =>
    intro i2 r_i2 hm
    refine tn_iload_n dX4_addFrames_2 rfl 1 rfl ?_
    refine tn_if_lt (tgt := 26) dX4_addFrames_3 (by decide) ⟨by omega, by omega⟩ (fun h1 => ?_) (fun h1 => ?_)
    · exact tn_sub [0, 1] rfl (hx_26 (i2) (by omega))
    · refine tn_aload_n dX4_addFrames_6 rfl 0 rfl ?_
      have nn9 : 0 ≤ σ.2.1 25 a := (by omega)
      obtain ⟨x6, hx7, hk8⟩ := (wf_25 hw h_a).resolve_left (by omega)
      have hk8o : OB T x6 1 := ⟨by omega, by rw [hk8]; rfl, by omega⟩
      refine tn_getR (ci := 4) (i := 2) (n := 25) (x := x6) dX4_addFrames_7 rfl lay_4 (by decide) fl4_19 h_a rfl rfl (hx7) ?_
      refine tn_iload_n dX4_addFrames_10 rfl 1 rfl ?_
      refine tn_iconst dX4_addFrames_11 ?_
      refine tn_callV (M := m_X4_addFrames) (pc := 12) (ix := 29) (ci := 1) (M' := m_X1_get) (As := [.int (iI i2), .int (iI 0)]) (rest := []) dX4_addFrames_12 ok_X1_get im_X1_get se_X1_get ml4_29 np_X1_get rfl rfl hk8o rfl (Nat.le_of_ble_eq_true rfl) (Nat.le_of_ble_eq_true rfl) rfl (k_X1_get (d + 1) (T := T) (σ := σ) (a := x6) (k := i2) (c := 0) hk8o (by omega) (by decide) hw (by omega)) (fun r10 T12 σ11 gt13 hp => ?_)
      obtain ⟨v15, rfl, rfl, rfl, f14⟩ := hp
      clear gt13
      show Tn _ _ 15 T σ [(0, .ref a), (2, .int (iI i2))] [.int (iI v15)] _
      refine tn_bipush dX4_addFrames_15 (by decide) ?_
      refine tn_icmp_eq (tgt := 26) dX4_addFrames_17 (by decide) ⟨by omega, by omega⟩ ⟨by decide, by decide⟩ (fun h16 => ?_) (fun h16 => ?_)
      · exact tn_sub [0, 1] rfl (hx_26 (i2) (by omega))
      · refine tn_iinc (q0 := 1) (L' := [(2, .int (iI (i2 + (-1)))), (0, .ref a)]) dX4_addFrames_20 rfl (by decide) rfl ?_
        refine tn_goto (tgt := 2) dX4_addFrames_23 (by decide) ?_
        exact tn_sub [1, 0] rfl (ih _ (by omega) (i2 + (-1)) (by omega) rfl)
theorem fl4_66 : Cond.fieldLink RX4 66 (TX1 5).1 (TX1 5).2.1 (TX1 5).2.2.1 ∈ pWW := pw1 (List.mem_of_getElem? (i := 104) rfl) rfl
theorem fl4_125 : Cond.fieldLink RX4 125 (TX1 6).1 (TX1 6).2.1 (TX1 6).2.2.1 ∈ pWW := pw1 (List.mem_of_getElem? (i := 108) rfl) rfl
theorem nl4_81 : (RX4, 81, yX11_put, "LineKeeper") ∈ nst_M := List.mem_of_getElem? (i := 37) rfl
theorem fl4_132 : Cond.fieldLink RX4 132 (TX1 7).1 (TX1 7).2.1 (TX1 7).2.2.1 ∈ pWW := pw1 (List.mem_of_getElem? (i := 112) rfl) rfl
theorem fl4_135 : Cond.fieldLink RX4 135 (TX1 8).1 (TX1 8).2.1 (TX1 8).2.2.1 ∈ pWW := pw1 (List.mem_of_getElem? (i := 116) rfl) rfl
theorem fl4_138 : Cond.fieldLink RX4 138 (TX1 9).1 (TX1 9).2.1 (TX1 9).2.2.1 ∈ pWW := pw1 (List.mem_of_getElem? (i := 119) rfl) rfl
theorem fl4_141 : Cond.fieldLink RX4 141 (TX1 10).1 (TX1 10).2.1 (TX1 10).2.2.1 ∈ pWW := pw1 (List.mem_of_getElem? (i := 124) rfl) rfl
theorem dX4_addFrames_26 : decode cX4_addFrames 26 = .ok (.iconst 0, 1) := by decide +kernel
theorem dX4_addFrames_27 : decode cX4_addFrames 27 = .ok (.istore_n 3, 1) := by decide +kernel
theorem dX4_addFrames_28 : decode cX4_addFrames 28 = .ok (.iload_n 3, 1) := by decide +kernel
theorem dX4_addFrames_29 : decode cX4_addFrames 29 = .ok (.aload_n 0, 1) := by decide +kernel
theorem dX4_addFrames_30 : decode cX4_addFrames 30 = .ok (.getfield 33, 3) := by decide +kernel
theorem dX4_addFrames_33 : decode cX4_addFrames 33 = .ok (.getfield 66, 3) := by decide +kernel
theorem dX4_addFrames_36 : decode cX4_addFrames 36 = .ok (.if_icmp .ge 204, 3) := by decide +kernel
theorem dX4_addFrames_39 : decode cX4_addFrames 39 = .ok (.aload_n 0, 1) := by decide +kernel
theorem dX4_addFrames_40 : decode cX4_addFrames 40 = .ok (.getfield 69, 3) := by decide +kernel
theorem dX4_addFrames_43 : decode cX4_addFrames 43 = .ok (.iload_n 3, 1) := by decide +kernel
theorem dX4_addFrames_44 : decode cX4_addFrames 44 = .ok (.iadd, 1) := by decide +kernel
theorem dX4_addFrames_45 : decode cX4_addFrames 45 = .ok (.istore 4, 2) := by decide +kernel
theorem dX4_addFrames_47 : decode cX4_addFrames 47 = .ok (.aload_n 0, 1) := by decide +kernel
theorem dX4_addFrames_48 : decode cX4_addFrames 48 = .ok (.getfield 19, 3) := by decide +kernel
theorem dX4_addFrames_51 : decode cX4_addFrames 51 = .ok (.getfield 125, 3) := by decide +kernel
theorem dX4_addFrames_54 : decode cX4_addFrames 54 = .ok (.iload 4, 2) := by decide +kernel
theorem dX4_addFrames_56 : decode cX4_addFrames 56 = .ok (.aload_n 0, 1) := by decide +kernel
theorem dX4_addFrames_57 : decode cX4_addFrames 57 = .ok (.getfield 33, 3) := by decide +kernel
theorem dX4_addFrames_60 : decode cX4_addFrames 60 = .ok (.getfield 125, 3) := by decide +kernel
theorem dX4_addFrames_63 : decode cX4_addFrames 63 = .ok (.iload_n 3, 1) := by decide +kernel
theorem dX4_addFrames_64 : decode cX4_addFrames 64 = .ok (.invokestatic 128, 3) := by decide +kernel
theorem dX4_addFrames_67 : decode cX4_addFrames 67 = .ok (.invokestatic 81, 3) := by decide +kernel
theorem dX4_addFrames_70 : decode cX4_addFrames 70 = .ok (.aload_n 0, 1) := by decide +kernel
theorem dX4_addFrames_71 : decode cX4_addFrames 71 = .ok (.getfield 19, 3) := by decide +kernel
theorem dX4_addFrames_74 : decode cX4_addFrames 74 = .ok (.getfield 132, 3) := by decide +kernel
theorem dX4_addFrames_77 : decode cX4_addFrames 77 = .ok (.iload 4, 2) := by decide +kernel
theorem dX4_addFrames_79 : decode cX4_addFrames 79 = .ok (.iload_n 3, 1) := by decide +kernel
theorem dX4_addFrames_80 : decode cX4_addFrames 80 = .ok (.ifCond .ne 15, 3) := by decide +kernel
theorem dX4_addFrames_95 : decode cX4_addFrames 95 = .ok (.aload_n 0, 1) := by decide +kernel
theorem dX4_addFrames_96 : decode cX4_addFrames 96 = .ok (.getfield 69, 3) := by decide +kernel
theorem dX4_addFrames_99 : decode cX4_addFrames 99 = .ok (.aload_n 0, 1) := by decide +kernel
theorem dX4_addFrames_100 : decode cX4_addFrames 100 = .ok (.getfield 33, 3) := by decide +kernel
theorem dX4_addFrames_103 : decode cX4_addFrames 103 = .ok (.getfield 132, 3) := by decide +kernel
theorem dX4_addFrames_106 : decode cX4_addFrames 106 = .ok (.iload_n 3, 1) := by decide +kernel
theorem dX4_addFrames_107 : decode cX4_addFrames 107 = .ok (.invokestatic 128, 3) := by decide +kernel
theorem dX4_addFrames_110 : decode cX4_addFrames 110 = .ok (.iadd, 1) := by decide +kernel
theorem dX4_addFrames_111 : decode cX4_addFrames 111 = .ok (.invokestatic 81, 3) := by decide +kernel
theorem dX4_addFrames_114 : decode cX4_addFrames 114 = .ok (.aload_n 0, 1) := by decide +kernel
theorem dX4_addFrames_115 : decode cX4_addFrames 115 = .ok (.getfield 19, 3) := by decide +kernel
theorem dX4_addFrames_118 : decode cX4_addFrames 118 = .ok (.getfield 135, 3) := by decide +kernel
theorem dX4_addFrames_121 : decode cX4_addFrames 121 = .ok (.iload 4, 2) := by decide +kernel
theorem dX4_addFrames_123 : decode cX4_addFrames 123 = .ok (.iload_n 3, 1) := by decide +kernel
theorem dX4_addFrames_124 : decode cX4_addFrames 124 = .ok (.ifCond .ne 15, 3) := by decide +kernel
theorem dX4_addFrames_139 : decode cX4_addFrames 139 = .ok (.aload_n 0, 1) := by decide +kernel
theorem dX4_addFrames_140 : decode cX4_addFrames 140 = .ok (.getfield 33, 3) := by decide +kernel
theorem dX4_addFrames_143 : decode cX4_addFrames 143 = .ok (.getfield 135, 3) := by decide +kernel
theorem dX4_addFrames_146 : decode cX4_addFrames 146 = .ok (.iload_n 3, 1) := by decide +kernel
theorem dX4_addFrames_147 : decode cX4_addFrames 147 = .ok (.invokestatic 128, 3) := by decide +kernel
theorem dX4_addFrames_150 : decode cX4_addFrames 150 = .ok (.invokestatic 81, 3) := by decide +kernel
theorem dX4_addFrames_153 : decode cX4_addFrames 153 = .ok (.aload_n 0, 1) := by decide +kernel
theorem dX4_addFrames_154 : decode cX4_addFrames 154 = .ok (.getfield 19, 3) := by decide +kernel
theorem dX4_addFrames_157 : decode cX4_addFrames 157 = .ok (.getfield 138, 3) := by decide +kernel
theorem dX4_addFrames_160 : decode cX4_addFrames 160 = .ok (.iload 4, 2) := by decide +kernel
theorem dX4_addFrames_162 : decode cX4_addFrames 162 = .ok (.aload_n 0, 1) := by decide +kernel
theorem dX4_addFrames_163 : decode cX4_addFrames 163 = .ok (.getfield 33, 3) := by decide +kernel
theorem dX4_addFrames_166 : decode cX4_addFrames 166 = .ok (.getfield 138, 3) := by decide +kernel
theorem dX4_addFrames_169 : decode cX4_addFrames 169 = .ok (.iload_n 3, 1) := by decide +kernel
theorem dX4_addFrames_170 : decode cX4_addFrames 170 = .ok (.invokestatic 128, 3) := by decide +kernel
theorem dX4_addFrames_173 : decode cX4_addFrames 173 = .ok (.invokestatic 81, 3) := by decide +kernel
theorem dX4_addFrames_176 : decode cX4_addFrames 176 = .ok (.iconst 0, 1) := by decide +kernel
theorem dX4_addFrames_177 : decode cX4_addFrames 177 = .ok (.istore 5, 2) := by decide +kernel
theorem dX4_addFrames_179 : decode cX4_addFrames 179 = .ok (.iload 5, 2) := by decide +kernel
theorem dX4_addFrames_181 : decode cX4_addFrames 181 = .ok (.aload_n 0, 1) := by decide +kernel
theorem dX4_addFrames_182 : decode cX4_addFrames 182 = .ok (.getfield 33, 3) := by decide +kernel
theorem dX4_addFrames_185 : decode cX4_addFrames 185 = .ok (.getfield 138, 3) := by decide +kernel
theorem dX4_addFrames_188 : decode cX4_addFrames 188 = .ok (.iload_n 3, 1) := by decide +kernel
theorem dX4_addFrames_189 : decode cX4_addFrames 189 = .ok (.invokestatic 128, 3) := by decide +kernel
theorem dX4_addFrames_192 : decode cX4_addFrames 192 = .ok (.if_icmp .ge 42, 3) := by decide +kernel
theorem dX4_addFrames_195 : decode cX4_addFrames 195 = .ok (.aload_n 0, 1) := by decide +kernel
theorem dX4_addFrames_196 : decode cX4_addFrames 196 = .ok (.getfield 19, 3) := by decide +kernel
theorem dX4_addFrames_199 : decode cX4_addFrames 199 = .ok (.getfield 141, 3) := by decide +kernel
theorem dX4_addFrames_202 : decode cX4_addFrames 202 = .ok (.iload 4, 2) := by decide +kernel
theorem dX4_addFrames_204 : decode cX4_addFrames 204 = .ok (.bipush 12, 2) := by decide +kernel
theorem dX4_addFrames_206 : decode cX4_addFrames 206 = .ok (.imul, 1) := by decide +kernel
theorem dX4_addFrames_207 : decode cX4_addFrames 207 = .ok (.iload 5, 2) := by decide +kernel
theorem dX4_addFrames_209 : decode cX4_addFrames 209 = .ok (.iadd, 1) := by decide +kernel
theorem dX4_addFrames_210 : decode cX4_addFrames 210 = .ok (.aload_n 0, 1) := by decide +kernel
theorem dX4_addFrames_211 : decode cX4_addFrames 211 = .ok (.getfield 57, 3) := by decide +kernel
theorem dX4_addFrames_214 : decode cX4_addFrames 214 = .ok (.aload_n 0, 1) := by decide +kernel
theorem dX4_addFrames_215 : decode cX4_addFrames 215 = .ok (.getfield 33, 3) := by decide +kernel
theorem dX4_addFrames_218 : decode cX4_addFrames 218 = .ok (.iload_n 3, 1) := by decide +kernel
theorem dX4_addFrames_219 : decode cX4_addFrames 219 = .ok (.iload 5, 2) := by decide +kernel
theorem dX4_addFrames_221 : decode cX4_addFrames 221 = .ok (.invokevirtual 122, 3) := by decide +kernel
theorem dX4_addFrames_224 : decode cX4_addFrames 224 = .ok (.iadd, 1) := by decide +kernel
theorem dX4_addFrames_225 : decode cX4_addFrames 225 = .ok (.invokestatic 81, 3) := by decide +kernel
theorem dX4_addFrames_228 : decode cX4_addFrames 228 = .ok (.iinc 5 1, 3) := by decide +kernel
theorem dX4_addFrames_231 : decode cX4_addFrames 231 = .ok (.goto (-52), 3) := by decide +kernel
set_option maxRecDepth 20000 in
theorem l_X4_addFrames_179 (d : Nat) {T : CT} {σ0 : MS} {a : Nat} {c2 : Int} {c3 : Int} {c4 : Int} {post : Option Value → CT → MS → Prop} (h_a : OB T a 4) (r_c2 : -2147483648 ≤ c2 ∧ c2 ≤ 2147483647) (r_c3 : 0 ≤ c3 ∧ c3 ≤ 2147483647) (r_c4 : -2147483648 ≤ c4 ∧ c4 ≤ 2147483647) (hw0 : WT T σ0) (hh : 0 ≤ σ0.2.1 25 a) (hg : 0 ≤ σ0.2.1 26 a) (hx_234 : ∀ (i5 : Int) (σ : MS) , (WT T σ) → (FrC T [] σ0 σ) → (0 ≤ i5 ∧ i5 ≤ 2147483647) → Tn (d + 3) m_X4_addFrames 234 T σ [(0, .ref a), (2, .int (iI c2)), (3, .int (iI c3)), (4, .int (iI c4)), (5, .int (iI i5))] [] post) : ∀ (n : Nat) (i5 : Int) (σ : MS) , (WT T σ) → (FrC T [] σ0 σ) → (0 ≤ i5 ∧ i5 ≤ 2147483647) → (2147483700 - i5).toNat = n → Tn (d + 3) m_X4_addFrames 179 T σ [(0, .ref a), (2, .int (iI c2)), (3, .int (iI c3)), (4, .int (iI c4)), (5, .int (iI i5))] [] post := by
  intro n
  induction n using Nat.strongRecOn with
  | _ n ih =>
    intro i5 σ hw hF r_i5 hm
    refine tn_iload dX4_addFrames_179 4 rfl ?_
    refine tn_aload_n dX4_addFrames_181 rfl 0 rfl ?_
    have nn8 : 0 ≤ σ0.2.1 26 a := (by omega)
    obtain ⟨x5, hx6, hk7⟩ := (wf_26 hw0 h_a).resolve_left (by omega)
    have hk7o : OB T x5 1 := ⟨by omega, by rw [hk7]; rfl, by omega⟩
    refine tn_getR (ci := 4) (i := 3) (n := 26) (x := x5) dX4_addFrames_182 rfl lay_4 (by decide) fl4_33 h_a rfl rfl (rc_F hF (Or.inl (by decide)) (by decide) (hx6)) ?_
    obtain ⟨x9, hx10, hk11, hl12⟩ : ∃ x : Nat, σ0.2.1 14 x5 = (x : Int) ∧ AR T x 11 12 12 := wf_14 hw0 hk7o
    have hk11i : IA T x9 := by unfold IA; omega
    refine tn_getR (ci := 1) (i := 9) (n := 14) (x := x9) dX4_addFrames_185 rfl lay_1 (by decide) fl4_138 hk7o rfl rfl (rc_F hF (Or.inl (by decide)) (by decide) (hx10)) ?_
    refine tn_iload_n dX4_addFrames_188 rfl 2 rfl ?_
    refine tn_callSN (M := m_X4_addFrames) (pc := 189) (ix := 128) (M' := m_X11_at) (As := [.ref x9, .int (iI c3)]) (rest := [.int (iI i5)]) dX4_addFrames_189 ok_X11_at stt_X11_at nl4_128 np_X11_at rfl (Nat.le_of_ble_eq_true rfl) (Nat.le_of_ble_eq_true rfl) rfl (k_X11_at (d + 1) (T := T) (σ := σ) (x := x9) (i := c3) hk11i (by omega) (by omega) hw ) (fun r13 T15 σ14 gt16 hp => ?_)
    obtain ⟨v20, rfl, rfl, rfl, f17, f18, f19⟩ := hp
    clear gt16
    have f18n := f18.2.1 hk11
    clear f18 f19
    show Tn _ _ 192 T σ [(0, .ref a), (2, .int (iI c2)), (3, .int (iI c3)), (4, .int (iI c4)), (5, .int (iI i5))] [.int (iI v20), .int (iI i5)] _
    refine tn_icmp_ge (tgt := 234) dX4_addFrames_192 (by decide) ⟨by omega, by omega⟩ ⟨by omega, by omega⟩ (fun h21 => ?_) (fun h21 => ?_)
    · exact tn_sub [0, 1, 2, 3, 4] rfl (hx_234 (i5) σ hw (FrC.rfl.trans (FrC.sub hF (by decide))) (by omega))
    · refine tn_aload_n dX4_addFrames_195 rfl 0 rfl ?_
      have nn29 : 0 ≤ σ0.2.1 25 a := (by omega)
      obtain ⟨x26, hx27, hk28⟩ := (wf_25 hw0 h_a).resolve_left (by omega)
      have hk28o : OB T x26 1 := ⟨by omega, by rw [hk28]; rfl, by omega⟩
      refine tn_getR (ci := 4) (i := 2) (n := 25) (x := x26) dX4_addFrames_196 rfl lay_4 (by decide) fl4_19 h_a rfl rfl (rc_F hF (Or.inl (by decide)) (by decide) (hx27)) ?_
      obtain ⟨x30, hx31, hk32, hl33⟩ : ∃ x : Nat, σ0.2.1 15 x26 = (x : Int) ∧ AR T x 1 144 144 := wf_15 hw0 hk28o
      have hk32i : IA T x30 := by unfold IA; omega
      refine tn_getR (ci := 1) (i := 10) (n := 15) (x := x30) dX4_addFrames_199 rfl lay_1 (by decide) fl4_141 hk28o rfl rfl (rc_F hF (Or.inl (by decide)) (by decide) (hx31)) ?_
      refine tn_iload dX4_addFrames_202 3 rfl ?_
      refine tn_bipush dX4_addFrames_204 (by decide) ?_
      refine tn_imul dX4_addFrames_206 ?_
      refine tn_any (fun z34 g35 => ?_)
      have g35r : -2147483648 ≤ z34 ∧ z34 ≤ 2147483647 := g35
      refine tn_iload dX4_addFrames_207 4 rfl ?_
      refine tn_iadd dX4_addFrames_209 ?_
      refine tn_any (fun z36 g37 => ?_)
      have g37r : -2147483648 ≤ z36 ∧ z36 ≤ 2147483647 := g37
      refine tn_aload_n dX4_addFrames_210 rfl 0 rfl ?_
      refine tn_getI (ci := 4) (i := 4) (n := 27) (t := σ0.2.1 27 a) dX4_addFrames_211 rfl lay_4 (by decide) fl4_57 h_a rfl rfl (rc_F hF (Or.inl (by decide)) (by decide) (rfl)) ?_
      have g38 : ((-2147483648 : Int) ≤ σ0.2.1 27 a ∧ σ0.2.1 27 a ≤ 2147483647) := wf_27 hw0 h_a
      refine tn_aload_n dX4_addFrames_214 rfl 0 rfl ?_
      refine tn_getR (ci := 4) (i := 3) (n := 26) (x := x5) dX4_addFrames_215 rfl lay_4 (by decide) fl4_33 h_a rfl rfl (rc_F hF (Or.inl (by decide)) (by decide) (hx6)) ?_
      refine tn_iload_n dX4_addFrames_218 rfl 2 rfl ?_
      refine tn_iload dX4_addFrames_219 4 rfl ?_
      refine tn_callV (M := m_X4_addFrames) (pc := 221) (ix := 122) (ci := 1) (M' := m_X1_homeOf) (As := [.int (iI c3), .int (iI i5)]) (rest := [.int (iI (σ0.2.1 27 a)), .int (iI z36), .ref x30]) dX4_addFrames_221 ok_X1_homeOf im_X1_homeOf se_X1_homeOf ml4_122 np_X1_homeOf rfl rfl hk7o rfl (Nat.le_of_ble_eq_true rfl) (Nat.le_of_ble_eq_true rfl) rfl (k_X1_homeOf (d) (T := T) (σ := σ) (a := x5) (f := c3) (m := i5) hk7o (by omega) (by omega) hw ) (fun r39 T41 σ40 gt42 hp => ?_)
      obtain ⟨v44, rfl, rfl, rfl, f43⟩ := hp
      clear gt42
      show Tn _ _ 224 T σ [(0, .ref a), (2, .int (iI c2)), (3, .int (iI c3)), (4, .int (iI c4)), (5, .int (iI i5))] [.int (iI v44), .int (iI (σ0.2.1 27 a)), .int (iI z36), .ref x30] _
      refine tn_iadd dX4_addFrames_224 ?_
      refine tn_any (fun z45 g46 => ?_)
      have g46r : -2147483648 ≤ z45 ∧ z45 ≤ 2147483647 := g46
      refine tn_callSN (M := m_X4_addFrames) (pc := 225) (ix := 81) (M' := m_X11_put) (As := [.ref x30, .int (iI z36), .int (iI z45)]) (rest := []) dX4_addFrames_225 ok_X11_put stt_X11_put nl4_81 np_X11_put rfl (Nat.le_of_ble_eq_true rfl) (Nat.le_of_ble_eq_true rfl) rfl (k_X11_put (d + 1) (T := T) (σ := σ) (x := x30) (i := z36) (y := z45) hk32i (by omega) (by omega) (by omega) hw (nh_k hk32 (by unfold HT; omega)) (vok_1 (by have q9 := hk32; omega) (by omega))) (fun r47 T49 σ48 gt50 hp => ?_)
      obtain ⟨rfl, rfl, w52, F53⟩ := hp
      clear gt50
      show Tn _ _ 228 T σ48 [(0, .ref a), (2, .int (iI c2)), (3, .int (iI c3)), (4, .int (iI c4)), (5, .int (iI i5))] [] _
      refine tn_iinc (q0 := 4) (L' := [(5, .int (iI (i5 + 1))), (0, .ref a), (2, .int (iI c2)), (3, .int (iI c3)), (4, .int (iI c4))]) dX4_addFrames_228 rfl (by decide) rfl ?_
      refine tn_goto (tgt := 179) dX4_addFrames_231 (by decide) ?_
      exact tn_sub [1, 2, 3, 4, 0] rfl (ih _ (by omega) (i5 + 1) σ48 w52 ((FrC.rfl.trans (FrC.sub hF (by decide))).trans (FrC.sub F53 (by decide))) (by omega) rfl)
theorem dX4_addFrames_234 : decode cX4_addFrames 234 = .ok (.iinc 3 1, 3) := by decide +kernel
theorem dX4_addFrames_237 : decode cX4_addFrames 237 = .ok (.goto (-209), 3) := by decide +kernel
theorem dX4_addFrames_83 : decode cX4_addFrames 83 = .ok (.aload_n 0, 1) := by decide +kernel
theorem dX4_addFrames_84 : decode cX4_addFrames 84 = .ok (.getfield 19, 3) := by decide +kernel
theorem dX4_addFrames_87 : decode cX4_addFrames 87 = .ok (.iload_n 2, 1) := by decide +kernel
theorem dX4_addFrames_88 : decode cX4_addFrames 88 = .ok (.iconst 2, 1) := by decide +kernel
theorem dX4_addFrames_89 : decode cX4_addFrames 89 = .ok (.invokevirtual 29, 3) := by decide +kernel
theorem dX4_addFrames_92 : decode cX4_addFrames 92 = .ok (.goto 19, 3) := by decide +kernel
theorem dX4_addFrames_127 : decode cX4_addFrames 127 = .ok (.aload_n 0, 1) := by decide +kernel
theorem dX4_addFrames_128 : decode cX4_addFrames 128 = .ok (.getfield 19, 3) := by decide +kernel
theorem dX4_addFrames_131 : decode cX4_addFrames 131 = .ok (.iload_n 2, 1) := by decide +kernel
theorem dX4_addFrames_132 : decode cX4_addFrames 132 = .ok (.iconst 1, 1) := by decide +kernel
theorem dX4_addFrames_133 : decode cX4_addFrames 133 = .ok (.invokevirtual 29, 3) := by decide +kernel
theorem dX4_addFrames_136 : decode cX4_addFrames 136 = .ok (.goto 14, 3) := by decide +kernel
set_option maxRecDepth 20000 in
theorem l_X4_addFrames_28 (d : Nat) {T : CT} {σ0 : MS} {a : Nat} {c2 : Int} {post : Option Value → CT → MS → Prop} (h_a : OB T a 4) (r_c2 : -2147483648 ≤ c2 ∧ c2 ≤ 2147483647) (hw0 : WT T σ0) (hh : 0 ≤ σ0.2.1 25 a) (hg : 0 ≤ σ0.2.1 26 a) (hx_240 : ∀ (i3 : Int) (σ : MS) , (WT T σ) → (FrC T [] σ0 σ) → (0 ≤ i3 ∧ i3 ≤ 2147483647) → Tn (d + 3) m_X4_addFrames 240 T σ [(0, .ref a), (2, .int (iI c2)), (3, .int (iI i3))] [] post) : ∀ (n : Nat) (i3 : Int) (σ : MS) , (WT T σ) → (FrC T [] σ0 σ) → (0 ≤ i3 ∧ i3 ≤ 2147483647) → (2147483700 - i3).toNat = n → Tn (d + 3) m_X4_addFrames 28 T σ [(0, .ref a), (2, .int (iI c2)), (3, .int (iI i3))] [] post := by
  intro n
  induction n using Nat.strongRecOn with
  | _ n ih =>
    intro i3 σ hw hF r_i3 hm
    refine tn_iload_n dX4_addFrames_28 rfl 2 rfl ?_
    refine tn_aload_n dX4_addFrames_29 rfl 0 rfl ?_
    have nn8 : 0 ≤ σ0.2.1 26 a := (by omega)
    obtain ⟨x5, hx6, hk7⟩ := (wf_26 hw0 h_a).resolve_left (by omega)
    have hk7o : OB T x5 1 := ⟨by omega, by rw [hk7]; rfl, by omega⟩
    refine tn_getR (ci := 4) (i := 3) (n := 26) (x := x5) dX4_addFrames_30 rfl lay_4 (by decide) fl4_33 h_a rfl rfl (rc_F hF (Or.inl (by decide)) (by decide) (hx6)) ?_
    refine tn_getI (ci := 1) (i := 5) (n := 10) (t := σ0.2.1 10 x5) dX4_addFrames_33 rfl lay_1 (by decide) fl4_66 hk7o rfl rfl (rc_F hF (Or.inl (by decide)) (by decide) (rfl)) ?_
    have g9 : ((0 : Int) ≤ σ0.2.1 10 x5 ∧ σ0.2.1 10 x5 ≤ 12) := wf_10 hw0 hk7o
    refine tn_icmp_ge (tgt := 240) dX4_addFrames_36 (by decide) ⟨by omega, by omega⟩ ⟨by omega, by omega⟩ (fun h10 => ?_) (fun h10 => ?_)
    · exact tn_sub [0, 1, 2] rfl (hx_240 (i3) σ hw (FrC.rfl.trans (FrC.sub hF (by decide))) (by omega))
    · refine tn_aload_n dX4_addFrames_39 rfl 0 rfl ?_
      refine tn_getI (ci := 4) (i := 6) (n := 29) (t := σ0.2.1 29 a) dX4_addFrames_40 rfl lay_4 (by decide) fl4_69 h_a rfl rfl (rc_F hF (Or.inl (by decide)) (by decide) (rfl)) ?_
      have g11 : ((-2147483648 : Int) ≤ σ0.2.1 29 a ∧ σ0.2.1 29 a ≤ 2147483647) := wf_29 hw0 h_a
      refine tn_iload_n dX4_addFrames_43 rfl 2 rfl ?_
      refine tn_iadd dX4_addFrames_44 ?_
      refine tn_any (fun z12 g13 => ?_)
      have g13r : -2147483648 ≤ z12 ∧ z12 ≤ 2147483647 := g13
      refine tn_istore (L' := [(4, .int (iI z12)), (0, .ref a), (2, .int (iI c2)), (3, .int (iI i3))]) dX4_addFrames_45 (by decide) rfl ?_
      refine tn_aload_n dX4_addFrames_47 rfl 1 rfl ?_
      have nn21 : 0 ≤ σ0.2.1 25 a := (by omega)
      obtain ⟨x18, hx19, hk20⟩ := (wf_25 hw0 h_a).resolve_left (by omega)
      have hk20o : OB T x18 1 := ⟨by omega, by rw [hk20]; rfl, by omega⟩
      refine tn_getR (ci := 4) (i := 2) (n := 25) (x := x18) dX4_addFrames_48 rfl lay_4 (by decide) fl4_19 h_a rfl rfl (rc_F hF (Or.inl (by decide)) (by decide) (hx19)) ?_
      obtain ⟨x22, hx23, hk24, hl25⟩ : ∃ x : Nat, σ0.2.1 11 x18 = (x : Int) ∧ AR T x 1 12 12 := wf_11 hw0 hk20o
      have hk24i : IA T x22 := by unfold IA; omega
      refine tn_getR (ci := 1) (i := 6) (n := 11) (x := x22) dX4_addFrames_51 rfl lay_1 (by decide) fl4_125 hk20o rfl rfl (rc_F hF (Or.inl (by decide)) (by decide) (hx23)) ?_
      refine tn_iload dX4_addFrames_54 0 rfl ?_
      refine tn_aload_n dX4_addFrames_56 rfl 1 rfl ?_
      refine tn_getR (ci := 4) (i := 3) (n := 26) (x := x5) dX4_addFrames_57 rfl lay_4 (by decide) fl4_33 h_a rfl rfl (rc_F hF (Or.inl (by decide)) (by decide) (hx6)) ?_
      obtain ⟨x26, hx27, hk28, hl29⟩ : ∃ x : Nat, σ0.2.1 11 x5 = (x : Int) ∧ AR T x 1 12 12 := wf_11 hw0 hk7o
      have hk28i : IA T x26 := by unfold IA; omega
      refine tn_getR (ci := 1) (i := 6) (n := 11) (x := x26) dX4_addFrames_60 rfl lay_1 (by decide) fl4_125 hk7o rfl rfl (rc_F hF (Or.inl (by decide)) (by decide) (hx27)) ?_
      refine tn_iload_n dX4_addFrames_63 rfl 3 rfl ?_
      refine tn_callSN (M := m_X4_addFrames) (pc := 64) (ix := 128) (M' := m_X11_at) (As := [.ref x26, .int (iI i3)]) (rest := [.int (iI z12), .ref x22]) dX4_addFrames_64 ok_X11_at stt_X11_at nl4_128 np_X11_at rfl (Nat.le_of_ble_eq_true rfl) (Nat.le_of_ble_eq_true rfl) rfl (k_X11_at (d + 1) (T := T) (σ := σ) (x := x26) (i := i3) hk28i (by omega) (by omega) hw ) (fun r30 T32 σ31 gt33 hp => ?_)
      obtain ⟨v37, rfl, rfl, rfl, f34, f35, f36⟩ := hp
      clear gt33
      clear f35 f36
      show Tn _ _ 67 T σ [(4, .int (iI z12)), (0, .ref a), (2, .int (iI c2)), (3, .int (iI i3))] [.int (iI v37), .int (iI z12), .ref x22] _
      refine tn_callSN (M := m_X4_addFrames) (pc := 67) (ix := 81) (M' := m_X11_put) (As := [.ref x22, .int (iI z12), .int (iI v37)]) (rest := []) dX4_addFrames_67 ok_X11_put stt_X11_put nl4_81 np_X11_put rfl (Nat.le_of_ble_eq_true rfl) (Nat.le_of_ble_eq_true rfl) rfl (k_X11_put (d + 1) (T := T) (σ := σ) (x := x22) (i := z12) (y := v37) hk24i (by omega) (by omega) (by omega) hw (nh_k hk24 (by unfold HT; omega)) (vok_1 (by have q9 := hk24; omega) (by omega))) (fun r38 T40 σ39 gt41 hp => ?_)
      obtain ⟨rfl, rfl, w43, F44⟩ := hp
      clear gt41
      show Tn _ _ 70 T σ39 [(4, .int (iI z12)), (0, .ref a), (2, .int (iI c2)), (3, .int (iI i3))] [] _
      refine tn_aload_n dX4_addFrames_70 rfl 1 rfl ?_
      refine tn_getR (ci := 4) (i := 2) (n := 25) (x := x18) dX4_addFrames_71 rfl lay_4 (by decide) fl4_19 h_a rfl rfl (rc_F F44 (Or.inl (by decide)) (by decide) (rc_F hF (Or.inl (by decide)) (by decide) (hx19))) ?_
      obtain ⟨x45, hx46, hk47, hl48⟩ : ∃ x : Nat, σ0.2.1 12 x18 = (x : Int) ∧ AR T x 1 12 12 := wf_12 hw0 hk20o
      have hk47i : IA T x45 := by unfold IA; omega
      refine tn_getR (ci := 1) (i := 7) (n := 12) (x := x45) dX4_addFrames_74 rfl lay_1 (by decide) fl4_132 hk20o rfl rfl (rc_F F44 (Or.inl (by decide)) (by decide) (rc_F hF (Or.inl (by decide)) (by decide) (hx46))) ?_
      refine tn_iload dX4_addFrames_77 0 rfl ?_
      refine tn_iload_n dX4_addFrames_79 rfl 3 rfl ?_
      refine tn_if_ne (tgt := 95) dX4_addFrames_80 (by decide) ⟨by omega, by omega⟩ (fun h49 => ?_) (fun h49 => ?_)
      · refine tn_aload_n dX4_addFrames_95 rfl 1 rfl ?_
        refine tn_getI (ci := 4) (i := 6) (n := 29) (t := σ0.2.1 29 a) dX4_addFrames_96 rfl lay_4 (by decide) fl4_69 h_a rfl rfl (rc_F F44 (Or.inl (by decide)) (by decide) (rc_F hF (Or.inl (by decide)) (by decide) (rfl))) ?_
        refine tn_aload_n dX4_addFrames_99 rfl 1 rfl ?_
        refine tn_getR (ci := 4) (i := 3) (n := 26) (x := x5) dX4_addFrames_100 rfl lay_4 (by decide) fl4_33 h_a rfl rfl (rc_F F44 (Or.inl (by decide)) (by decide) (rc_F hF (Or.inl (by decide)) (by decide) (hx6))) ?_
        obtain ⟨x50, hx51, hk52, hl53⟩ : ∃ x : Nat, σ0.2.1 12 x5 = (x : Int) ∧ AR T x 1 12 12 := wf_12 hw0 hk7o
        have hk52i : IA T x50 := by unfold IA; omega
        refine tn_getR (ci := 1) (i := 7) (n := 12) (x := x50) dX4_addFrames_103 rfl lay_1 (by decide) fl4_132 hk7o rfl rfl (rc_F F44 (Or.inl (by decide)) (by decide) (rc_F hF (Or.inl (by decide)) (by decide) (hx51))) ?_
        refine tn_iload_n dX4_addFrames_106 rfl 3 rfl ?_
        refine tn_callSN (M := m_X4_addFrames) (pc := 107) (ix := 128) (M' := m_X11_at) (As := [.ref x50, .int (iI i3)]) (rest := [.int (iI (σ0.2.1 29 a)), .int (iI z12), .ref x45]) dX4_addFrames_107 ok_X11_at stt_X11_at nl4_128 np_X11_at rfl (Nat.le_of_ble_eq_true rfl) (Nat.le_of_ble_eq_true rfl) rfl (k_X11_at (d + 1) (T := T) (σ := σ39) (x := x50) (i := i3) hk52i (by omega) (by omega) w43 ) (fun r54 T56 σ55 gt57 hp => ?_)
        obtain ⟨v61, rfl, rfl, rfl, f58, f59, f60⟩ := hp
        clear gt57
        clear f59 f60
        show Tn _ _ 110 T σ39 [(4, .int (iI z12)), (0, .ref a), (2, .int (iI c2)), (3, .int (iI i3))] [.int (iI v61), .int (iI (σ0.2.1 29 a)), .int (iI z12), .ref x45] _
        refine tn_iadd dX4_addFrames_110 ?_
        refine tn_any (fun z62 g63 => ?_)
        have g63r : -2147483648 ≤ z62 ∧ z62 ≤ 2147483647 := g63
        refine tn_callSN (M := m_X4_addFrames) (pc := 111) (ix := 81) (M' := m_X11_put) (As := [.ref x45, .int (iI z12), .int (iI z62)]) (rest := []) dX4_addFrames_111 ok_X11_put stt_X11_put nl4_81 np_X11_put rfl (Nat.le_of_ble_eq_true rfl) (Nat.le_of_ble_eq_true rfl) rfl (k_X11_put (d + 1) (T := T) (σ := σ39) (x := x45) (i := z12) (y := z62) hk47i (by omega) (by omega) (by omega) w43 (nh_k hk47 (by unfold HT; omega)) (vok_1 (by have q9 := hk47; omega) (by omega))) (fun r64 T66 σ65 gt67 hp => ?_)
        obtain ⟨rfl, rfl, w69, F70⟩ := hp
        clear gt67
        show Tn _ _ 114 T σ65 [(4, .int (iI z12)), (0, .ref a), (2, .int (iI c2)), (3, .int (iI i3))] [] _
        refine tn_aload_n dX4_addFrames_114 rfl 1 rfl ?_
        refine tn_getR (ci := 4) (i := 2) (n := 25) (x := x18) dX4_addFrames_115 rfl lay_4 (by decide) fl4_19 h_a rfl rfl (rc_F F70 (Or.inl (by decide)) (by decide) (rc_F F44 (Or.inl (by decide)) (by decide) (rc_F hF (Or.inl (by decide)) (by decide) (hx19)))) ?_
        obtain ⟨x71, hx72, hk73, hl74⟩ : ∃ x : Nat, σ0.2.1 13 x18 = (x : Int) ∧ AR T x 1 12 12 := wf_13 hw0 hk20o
        have hk73i : IA T x71 := by unfold IA; omega
        refine tn_getR (ci := 1) (i := 8) (n := 13) (x := x71) dX4_addFrames_118 rfl lay_1 (by decide) fl4_135 hk20o rfl rfl (rc_F F70 (Or.inl (by decide)) (by decide) (rc_F F44 (Or.inl (by decide)) (by decide) (rc_F hF (Or.inl (by decide)) (by decide) (hx72)))) ?_
        refine tn_iload dX4_addFrames_121 0 rfl ?_
        refine tn_iload_n dX4_addFrames_123 rfl 3 rfl ?_
        refine tn_if_ne (tgt := 139) dX4_addFrames_124 (by decide) ⟨by omega, by omega⟩ (fun h75 => ?_) (fun h75 => absurd h75 (by omega))
        refine tn_aload_n dX4_addFrames_139 rfl 1 rfl ?_
        refine tn_getR (ci := 4) (i := 3) (n := 26) (x := x5) dX4_addFrames_140 rfl lay_4 (by decide) fl4_33 h_a rfl rfl (rc_F F70 (Or.inl (by decide)) (by decide) (rc_F F44 (Or.inl (by decide)) (by decide) (rc_F hF (Or.inl (by decide)) (by decide) (hx6)))) ?_
        obtain ⟨x76, hx77, hk78, hl79⟩ : ∃ x : Nat, σ0.2.1 13 x5 = (x : Int) ∧ AR T x 1 12 12 := wf_13 hw0 hk7o
        have hk78i : IA T x76 := by unfold IA; omega
        refine tn_getR (ci := 1) (i := 8) (n := 13) (x := x76) dX4_addFrames_143 rfl lay_1 (by decide) fl4_135 hk7o rfl rfl (rc_F F70 (Or.inl (by decide)) (by decide) (rc_F F44 (Or.inl (by decide)) (by decide) (rc_F hF (Or.inl (by decide)) (by decide) (hx77)))) ?_
        refine tn_iload_n dX4_addFrames_146 rfl 3 rfl ?_
        refine tn_callSN (M := m_X4_addFrames) (pc := 147) (ix := 128) (M' := m_X11_at) (As := [.ref x76, .int (iI i3)]) (rest := [.int (iI z12), .ref x71]) dX4_addFrames_147 ok_X11_at stt_X11_at nl4_128 np_X11_at rfl (Nat.le_of_ble_eq_true rfl) (Nat.le_of_ble_eq_true rfl) rfl (k_X11_at (d + 1) (T := T) (σ := σ65) (x := x76) (i := i3) hk78i (by omega) (by omega) w69 ) (fun r80 T82 σ81 gt83 hp => ?_)
        obtain ⟨v87, rfl, rfl, rfl, f84, f85, f86⟩ := hp
        clear gt83
        clear f85 f86
        show Tn _ _ 150 T σ65 [(4, .int (iI z12)), (0, .ref a), (2, .int (iI c2)), (3, .int (iI i3))] [.int (iI v87), .int (iI z12), .ref x71] _
        refine tn_callSN (M := m_X4_addFrames) (pc := 150) (ix := 81) (M' := m_X11_put) (As := [.ref x71, .int (iI z12), .int (iI v87)]) (rest := []) dX4_addFrames_150 ok_X11_put stt_X11_put nl4_81 np_X11_put rfl (Nat.le_of_ble_eq_true rfl) (Nat.le_of_ble_eq_true rfl) rfl (k_X11_put (d + 1) (T := T) (σ := σ65) (x := x71) (i := z12) (y := v87) hk73i (by omega) (by omega) (by omega) w69 (nh_k hk73 (by unfold HT; omega)) (vok_1 (by have q9 := hk73; omega) (by omega))) (fun r88 T90 σ89 gt91 hp => ?_)
        obtain ⟨rfl, rfl, w93, F94⟩ := hp
        clear gt91
        show Tn _ _ 153 T σ89 [(4, .int (iI z12)), (0, .ref a), (2, .int (iI c2)), (3, .int (iI i3))] [] _
        refine tn_aload_n dX4_addFrames_153 rfl 1 rfl ?_
        refine tn_getR (ci := 4) (i := 2) (n := 25) (x := x18) dX4_addFrames_154 rfl lay_4 (by decide) fl4_19 h_a rfl rfl (rc_F F94 (Or.inl (by decide)) (by decide) (rc_F F70 (Or.inl (by decide)) (by decide) (rc_F F44 (Or.inl (by decide)) (by decide) (rc_F hF (Or.inl (by decide)) (by decide) (hx19))))) ?_
        obtain ⟨x95, hx96, hk97, hl98⟩ : ∃ x : Nat, σ0.2.1 14 x18 = (x : Int) ∧ AR T x 11 12 12 := wf_14 hw0 hk20o
        have hk97i : IA T x95 := by unfold IA; omega
        refine tn_getR (ci := 1) (i := 9) (n := 14) (x := x95) dX4_addFrames_157 rfl lay_1 (by decide) fl4_138 hk20o rfl rfl (rc_F F94 (Or.inl (by decide)) (by decide) (rc_F F70 (Or.inl (by decide)) (by decide) (rc_F F44 (Or.inl (by decide)) (by decide) (rc_F hF (Or.inl (by decide)) (by decide) (hx96))))) ?_
        refine tn_iload dX4_addFrames_160 0 rfl ?_
        refine tn_aload_n dX4_addFrames_162 rfl 1 rfl ?_
        refine tn_getR (ci := 4) (i := 3) (n := 26) (x := x5) dX4_addFrames_163 rfl lay_4 (by decide) fl4_33 h_a rfl rfl (rc_F F94 (Or.inl (by decide)) (by decide) (rc_F F70 (Or.inl (by decide)) (by decide) (rc_F F44 (Or.inl (by decide)) (by decide) (rc_F hF (Or.inl (by decide)) (by decide) (hx6))))) ?_
        obtain ⟨x99, hx100, hk101, hl102⟩ : ∃ x : Nat, σ0.2.1 14 x5 = (x : Int) ∧ AR T x 11 12 12 := wf_14 hw0 hk7o
        have hk101i : IA T x99 := by unfold IA; omega
        refine tn_getR (ci := 1) (i := 9) (n := 14) (x := x99) dX4_addFrames_166 rfl lay_1 (by decide) fl4_138 hk7o rfl rfl (rc_F F94 (Or.inl (by decide)) (by decide) (rc_F F70 (Or.inl (by decide)) (by decide) (rc_F F44 (Or.inl (by decide)) (by decide) (rc_F hF (Or.inl (by decide)) (by decide) (hx100))))) ?_
        refine tn_iload_n dX4_addFrames_169 rfl 3 rfl ?_
        refine tn_callSN (M := m_X4_addFrames) (pc := 170) (ix := 128) (M' := m_X11_at) (As := [.ref x99, .int (iI i3)]) (rest := [.int (iI z12), .ref x95]) dX4_addFrames_170 ok_X11_at stt_X11_at nl4_128 np_X11_at rfl (Nat.le_of_ble_eq_true rfl) (Nat.le_of_ble_eq_true rfl) rfl (k_X11_at (d + 1) (T := T) (σ := σ89) (x := x99) (i := i3) hk101i (by omega) (by omega) w93 ) (fun r103 T105 σ104 gt106 hp => ?_)
        obtain ⟨v110, rfl, rfl, rfl, f107, f108, f109⟩ := hp
        clear gt106
        have f108n := f108.2.1 hk101
        clear f108 f109
        show Tn _ _ 173 T σ89 [(4, .int (iI z12)), (0, .ref a), (2, .int (iI c2)), (3, .int (iI i3))] [.int (iI v110), .int (iI z12), .ref x95] _
        refine tn_callSN (M := m_X4_addFrames) (pc := 173) (ix := 81) (M' := m_X11_put) (As := [.ref x95, .int (iI z12), .int (iI v110)]) (rest := []) dX4_addFrames_173 ok_X11_put stt_X11_put nl4_81 np_X11_put rfl (Nat.le_of_ble_eq_true rfl) (Nat.le_of_ble_eq_true rfl) rfl (k_X11_put (d + 1) (T := T) (σ := σ89) (x := x95) (i := z12) (y := v110) hk97i (by omega) (by omega) (by omega) w93 (nh_k hk97 (by unfold HT; omega)) (by rw [hk97]; exact vok_11 (by omega))) (fun r111 T113 σ112 gt114 hp => ?_)
        obtain ⟨rfl, rfl, w116, F117⟩ := hp
        clear gt114
        show Tn _ _ 176 T σ112 [(4, .int (iI z12)), (0, .ref a), (2, .int (iI c2)), (3, .int (iI i3))] [] _
        refine tn_iconst dX4_addFrames_176 ?_
        refine tn_istore (L' := [(5, .int (iI 0)), (4, .int (iI z12)), (0, .ref a), (2, .int (iI c2)), (3, .int (iI i3))]) dX4_addFrames_177 (by decide) rfl ?_
        refine tn_sub [2, 3, 4, 1, 0] rfl (l_X4_addFrames_179 (d) (T := T) (σ0 := σ112) (a := a) (c2 := c2) (c3 := i3) (c4 := z12) h_a (by omega) (by omega) (by omega) w116 (by rw [show σ112.2.1 25 a = σ0.2.1 25 a from rc_F F117 (Or.inl (by decide)) (by decide) (rc_F F94 (Or.inl (by decide)) (by decide) (rc_F F70 (Or.inl (by decide)) (by decide) (rc_F F44 (Or.inl (by decide)) (by decide) (rc_F hF (Or.inl (by decide)) (by decide) (rfl)))))]; omega) (by rw [show σ112.2.1 26 a = σ0.2.1 26 a from rc_F F117 (Or.inl (by decide)) (by decide) (rc_F F94 (Or.inl (by decide)) (by decide) (rc_F F70 (Or.inl (by decide)) (by decide) (rc_F F44 (Or.inl (by decide)) (by decide) (rc_F hF (Or.inl (by decide)) (by decide) (rfl)))))]; omega) (fun i5118 σ119 w122 F123 r124 => ?_) _ (0) σ112 w116 FrC.rfl (by omega) rfl)
        show Tn _ _ 234 T σ119 [(0, .ref a), (2, .int (iI c2)), (3, .int (iI i3)), (4, .int (iI z12)), (5, .int (iI i5118))] [] _
        refine tn_iinc (q0 := 2) (L' := [(3, .int (iI (i3 + 1))), (0, .ref a), (2, .int (iI c2)), (4, .int (iI z12)), (5, .int (iI i5118))]) dX4_addFrames_234 rfl (by decide) rfl ?_
        refine tn_goto (tgt := 28) dX4_addFrames_237 (by decide) ?_
        exact tn_sub [1, 2, 0] rfl (ih _ (by omega) (i3 + 1) σ119 w122 ((((((FrC.rfl.trans (FrC.sub hF (by decide))).trans (FrC.sub F44 (by decide))).trans (FrC.sub F70 (by decide))).trans (FrC.sub F94 (by decide))).trans (FrC.sub F117 (by decide))).trans (FrC.sub F123 (by decide))) (by omega) rfl)
      · refine tn_aload_n dX4_addFrames_83 rfl 1 rfl ?_
        refine tn_getR (ci := 4) (i := 2) (n := 25) (x := x18) dX4_addFrames_84 rfl lay_4 (by decide) fl4_19 h_a rfl rfl (rc_F F44 (Or.inl (by decide)) (by decide) (rc_F hF (Or.inl (by decide)) (by decide) (hx19))) ?_
        refine tn_iload_n dX4_addFrames_87 rfl 2 rfl ?_
        refine tn_iconst dX4_addFrames_88 ?_
        refine tn_callV (M := m_X4_addFrames) (pc := 89) (ix := 29) (ci := 1) (M' := m_X1_get) (As := [.int (iI c2), .int (iI 2)]) (rest := [.int (iI z12), .ref x45]) dX4_addFrames_89 ok_X1_get im_X1_get se_X1_get ml4_29 np_X1_get rfl rfl hk20o rfl (Nat.le_of_ble_eq_true rfl) (Nat.le_of_ble_eq_true rfl) rfl (k_X1_get (d + 1) (T := T) (σ := σ39) (a := x18) (k := c2) (c := 2) hk20o (by omega) (by decide) w43 (by omega)) (fun r125 T127 σ126 gt128 hp => ?_)
        obtain ⟨v130, rfl, rfl, rfl, f129⟩ := hp
        clear gt128
        show Tn _ _ 92 T σ39 [(4, .int (iI z12)), (0, .ref a), (2, .int (iI c2)), (3, .int (iI i3))] [.int (iI v130), .int (iI z12), .ref x45] _
        refine tn_goto (tgt := 111) dX4_addFrames_92 (by decide) ?_
        refine tn_callSN (M := m_X4_addFrames) (pc := 111) (ix := 81) (M' := m_X11_put) (As := [.ref x45, .int (iI z12), .int (iI v130)]) (rest := []) dX4_addFrames_111 ok_X11_put stt_X11_put nl4_81 np_X11_put rfl (Nat.le_of_ble_eq_true rfl) (Nat.le_of_ble_eq_true rfl) rfl (k_X11_put (d + 1) (T := T) (σ := σ39) (x := x45) (i := z12) (y := v130) hk47i (by omega) (by omega) (by omega) w43 (nh_k hk47 (by unfold HT; omega)) (vok_1 (by have q9 := hk47; omega) (by omega))) (fun r131 T133 σ132 gt134 hp => ?_)
        obtain ⟨rfl, rfl, w136, F137⟩ := hp
        clear gt134
        show Tn _ _ 114 T σ132 [(4, .int (iI z12)), (0, .ref a), (2, .int (iI c2)), (3, .int (iI i3))] [] _
        refine tn_aload_n dX4_addFrames_114 rfl 1 rfl ?_
        refine tn_getR (ci := 4) (i := 2) (n := 25) (x := x18) dX4_addFrames_115 rfl lay_4 (by decide) fl4_19 h_a rfl rfl (rc_F F137 (Or.inl (by decide)) (by decide) (rc_F F44 (Or.inl (by decide)) (by decide) (rc_F hF (Or.inl (by decide)) (by decide) (hx19)))) ?_
        obtain ⟨x138, hx139, hk140, hl141⟩ : ∃ x : Nat, σ0.2.1 13 x18 = (x : Int) ∧ AR T x 1 12 12 := wf_13 hw0 hk20o
        have hk140i : IA T x138 := by unfold IA; omega
        refine tn_getR (ci := 1) (i := 8) (n := 13) (x := x138) dX4_addFrames_118 rfl lay_1 (by decide) fl4_135 hk20o rfl rfl (rc_F F137 (Or.inl (by decide)) (by decide) (rc_F F44 (Or.inl (by decide)) (by decide) (rc_F hF (Or.inl (by decide)) (by decide) (hx139)))) ?_
        refine tn_iload dX4_addFrames_121 0 rfl ?_
        refine tn_iload_n dX4_addFrames_123 rfl 3 rfl ?_
        refine tn_if_ne (tgt := 139) dX4_addFrames_124 (by decide) ⟨by omega, by omega⟩ (fun h142 => absurd h142 (by omega)) (fun h142 => ?_)
        refine tn_aload_n dX4_addFrames_127 rfl 1 rfl ?_
        refine tn_getR (ci := 4) (i := 2) (n := 25) (x := x18) dX4_addFrames_128 rfl lay_4 (by decide) fl4_19 h_a rfl rfl (rc_F F137 (Or.inl (by decide)) (by decide) (rc_F F44 (Or.inl (by decide)) (by decide) (rc_F hF (Or.inl (by decide)) (by decide) (hx19)))) ?_
        refine tn_iload_n dX4_addFrames_131 rfl 2 rfl ?_
        refine tn_iconst dX4_addFrames_132 ?_
        refine tn_callV (M := m_X4_addFrames) (pc := 133) (ix := 29) (ci := 1) (M' := m_X1_get) (As := [.int (iI c2), .int (iI 1)]) (rest := [.int (iI z12), .ref x138]) dX4_addFrames_133 ok_X1_get im_X1_get se_X1_get ml4_29 np_X1_get rfl rfl hk20o rfl (Nat.le_of_ble_eq_true rfl) (Nat.le_of_ble_eq_true rfl) rfl (k_X1_get (d + 1) (T := T) (σ := σ132) (a := x18) (k := c2) (c := 1) hk20o (by omega) (by decide) w136 (by omega)) (fun r143 T145 σ144 gt146 hp => ?_)
        obtain ⟨v148, rfl, rfl, rfl, f147⟩ := hp
        clear gt146
        show Tn _ _ 136 T σ132 [(4, .int (iI z12)), (0, .ref a), (2, .int (iI c2)), (3, .int (iI i3))] [.int (iI v148), .int (iI z12), .ref x138] _
        refine tn_goto (tgt := 150) dX4_addFrames_136 (by decide) ?_
        refine tn_callSN (M := m_X4_addFrames) (pc := 150) (ix := 81) (M' := m_X11_put) (As := [.ref x138, .int (iI z12), .int (iI v148)]) (rest := []) dX4_addFrames_150 ok_X11_put stt_X11_put nl4_81 np_X11_put rfl (Nat.le_of_ble_eq_true rfl) (Nat.le_of_ble_eq_true rfl) rfl (k_X11_put (d + 1) (T := T) (σ := σ132) (x := x138) (i := z12) (y := v148) hk140i (by omega) (by omega) (by omega) w136 (nh_k hk140 (by unfold HT; omega)) (vok_1 (by have q9 := hk140; omega) (by omega))) (fun r149 T151 σ150 gt152 hp => ?_)
        obtain ⟨rfl, rfl, w154, F155⟩ := hp
        clear gt152
        show Tn _ _ 153 T σ150 [(4, .int (iI z12)), (0, .ref a), (2, .int (iI c2)), (3, .int (iI i3))] [] _
        refine tn_aload_n dX4_addFrames_153 rfl 1 rfl ?_
        refine tn_getR (ci := 4) (i := 2) (n := 25) (x := x18) dX4_addFrames_154 rfl lay_4 (by decide) fl4_19 h_a rfl rfl (rc_F F155 (Or.inl (by decide)) (by decide) (rc_F F137 (Or.inl (by decide)) (by decide) (rc_F F44 (Or.inl (by decide)) (by decide) (rc_F hF (Or.inl (by decide)) (by decide) (hx19))))) ?_
        obtain ⟨x156, hx157, hk158, hl159⟩ : ∃ x : Nat, σ0.2.1 14 x18 = (x : Int) ∧ AR T x 11 12 12 := wf_14 hw0 hk20o
        have hk158i : IA T x156 := by unfold IA; omega
        refine tn_getR (ci := 1) (i := 9) (n := 14) (x := x156) dX4_addFrames_157 rfl lay_1 (by decide) fl4_138 hk20o rfl rfl (rc_F F155 (Or.inl (by decide)) (by decide) (rc_F F137 (Or.inl (by decide)) (by decide) (rc_F F44 (Or.inl (by decide)) (by decide) (rc_F hF (Or.inl (by decide)) (by decide) (hx157))))) ?_
        refine tn_iload dX4_addFrames_160 0 rfl ?_
        refine tn_aload_n dX4_addFrames_162 rfl 1 rfl ?_
        refine tn_getR (ci := 4) (i := 3) (n := 26) (x := x5) dX4_addFrames_163 rfl lay_4 (by decide) fl4_33 h_a rfl rfl (rc_F F155 (Or.inl (by decide)) (by decide) (rc_F F137 (Or.inl (by decide)) (by decide) (rc_F F44 (Or.inl (by decide)) (by decide) (rc_F hF (Or.inl (by decide)) (by decide) (hx6))))) ?_
        obtain ⟨x160, hx161, hk162, hl163⟩ : ∃ x : Nat, σ0.2.1 14 x5 = (x : Int) ∧ AR T x 11 12 12 := wf_14 hw0 hk7o
        have hk162i : IA T x160 := by unfold IA; omega
        refine tn_getR (ci := 1) (i := 9) (n := 14) (x := x160) dX4_addFrames_166 rfl lay_1 (by decide) fl4_138 hk7o rfl rfl (rc_F F155 (Or.inl (by decide)) (by decide) (rc_F F137 (Or.inl (by decide)) (by decide) (rc_F F44 (Or.inl (by decide)) (by decide) (rc_F hF (Or.inl (by decide)) (by decide) (hx161))))) ?_
        refine tn_iload_n dX4_addFrames_169 rfl 3 rfl ?_
        refine tn_callSN (M := m_X4_addFrames) (pc := 170) (ix := 128) (M' := m_X11_at) (As := [.ref x160, .int (iI i3)]) (rest := [.int (iI z12), .ref x156]) dX4_addFrames_170 ok_X11_at stt_X11_at nl4_128 np_X11_at rfl (Nat.le_of_ble_eq_true rfl) (Nat.le_of_ble_eq_true rfl) rfl (k_X11_at (d + 1) (T := T) (σ := σ150) (x := x160) (i := i3) hk162i (by omega) (by omega) w154 ) (fun r164 T166 σ165 gt167 hp => ?_)
        obtain ⟨v171, rfl, rfl, rfl, f168, f169, f170⟩ := hp
        clear gt167
        have f169n := f169.2.1 hk162
        clear f169 f170
        show Tn _ _ 173 T σ150 [(4, .int (iI z12)), (0, .ref a), (2, .int (iI c2)), (3, .int (iI i3))] [.int (iI v171), .int (iI z12), .ref x156] _
        refine tn_callSN (M := m_X4_addFrames) (pc := 173) (ix := 81) (M' := m_X11_put) (As := [.ref x156, .int (iI z12), .int (iI v171)]) (rest := []) dX4_addFrames_173 ok_X11_put stt_X11_put nl4_81 np_X11_put rfl (Nat.le_of_ble_eq_true rfl) (Nat.le_of_ble_eq_true rfl) rfl (k_X11_put (d + 1) (T := T) (σ := σ150) (x := x156) (i := z12) (y := v171) hk158i (by omega) (by omega) (by omega) w154 (nh_k hk158 (by unfold HT; omega)) (by rw [hk158]; exact vok_11 (by omega))) (fun r172 T174 σ173 gt175 hp => ?_)
        obtain ⟨rfl, rfl, w177, F178⟩ := hp
        clear gt175
        show Tn _ _ 176 T σ173 [(4, .int (iI z12)), (0, .ref a), (2, .int (iI c2)), (3, .int (iI i3))] [] _
        refine tn_iconst dX4_addFrames_176 ?_
        refine tn_istore (L' := [(5, .int (iI 0)), (4, .int (iI z12)), (0, .ref a), (2, .int (iI c2)), (3, .int (iI i3))]) dX4_addFrames_177 (by decide) rfl ?_
        refine tn_sub [2, 3, 4, 1, 0] rfl (l_X4_addFrames_179 (d) (T := T) (σ0 := σ173) (a := a) (c2 := c2) (c3 := i3) (c4 := z12) h_a (by omega) (by omega) (by omega) w177 (by rw [show σ173.2.1 25 a = σ0.2.1 25 a from rc_F F178 (Or.inl (by decide)) (by decide) (rc_F F155 (Or.inl (by decide)) (by decide) (rc_F F137 (Or.inl (by decide)) (by decide) (rc_F F44 (Or.inl (by decide)) (by decide) (rc_F hF (Or.inl (by decide)) (by decide) (rfl)))))]; omega) (by rw [show σ173.2.1 26 a = σ0.2.1 26 a from rc_F F178 (Or.inl (by decide)) (by decide) (rc_F F155 (Or.inl (by decide)) (by decide) (rc_F F137 (Or.inl (by decide)) (by decide) (rc_F F44 (Or.inl (by decide)) (by decide) (rc_F hF (Or.inl (by decide)) (by decide) (rfl)))))]; omega) (fun i5179 σ180 w183 F184 r185 => ?_) _ (0) σ173 w177 FrC.rfl (by omega) rfl)
        show Tn _ _ 234 T σ180 [(0, .ref a), (2, .int (iI c2)), (3, .int (iI i3)), (4, .int (iI z12)), (5, .int (iI i5179))] [] _
        refine tn_iinc (q0 := 2) (L' := [(3, .int (iI (i3 + 1))), (0, .ref a), (2, .int (iI c2)), (4, .int (iI z12)), (5, .int (iI i5179))]) dX4_addFrames_234 rfl (by decide) rfl ?_
        refine tn_goto (tgt := 28) dX4_addFrames_237 (by decide) ?_
        exact tn_sub [1, 2, 0] rfl (ih _ (by omega) (i3 + 1) σ180 w183 ((((((FrC.rfl.trans (FrC.sub hF (by decide))).trans (FrC.sub F44 (by decide))).trans (FrC.sub F137 (by decide))).trans (FrC.sub F155 (by decide))).trans (FrC.sub F178 (by decide))).trans (FrC.sub F184 (by decide))) (by omega) rfl)
theorem dX4_addFrames_240 : decode cX4_addFrames 240 = .ok (.aload_n 0, 1) := by decide +kernel
theorem dX4_addFrames_241 : decode cX4_addFrames 241 = .ok (.getfield 19, 3) := by decide +kernel
theorem dX4_addFrames_244 : decode cX4_addFrames 244 = .ok (.aload_n 0, 1) := by decide +kernel
theorem dX4_addFrames_245 : decode cX4_addFrames 245 = .ok (.getfield 69, 3) := by decide +kernel
theorem dX4_addFrames_248 : decode cX4_addFrames 248 = .ok (.aload_n 0, 1) := by decide +kernel
theorem dX4_addFrames_249 : decode cX4_addFrames 249 = .ok (.getfield 33, 3) := by decide +kernel
theorem dX4_addFrames_252 : decode cX4_addFrames 252 = .ok (.getfield 66, 3) := by decide +kernel
theorem dX4_addFrames_255 : decode cX4_addFrames 255 = .ok (.iadd, 1) := by decide +kernel
theorem dX4_addFrames_256 : decode cX4_addFrames 256 = .ok (.putfield 66, 3) := by decide +kernel
theorem dX4_addFrames_259 : decode cX4_addFrames 259 = .ok (.return_, 1) := by decide +kernel
set_option maxRecDepth 20000 in
theorem k_X4_addFrames (d : Nat) {T : CT} {σ : MS} {a : Nat} {p1 : Int} (ha : OB T a 4) (h_p1 : -2147483648 ≤ p1 ∧ p1 ≤ 2147483647) (hw : WT T σ) (hh : 0 ≤ σ.2.1 25 a) (hg : 0 ≤ σ.2.1 26 a) (hf : FRB σ a) : Tn (d + 3) m_X4_addFrames 0 T σ [(0, .ref a), (1, .int (iI p1))] [] (fun ro T2 σ2 => ro = none ∧ T = T2 ∧ WT T2 σ2 ∧ FrC T [10] σ σ2) := by
  refine tn_iload_n dX4_addFrames_0 rfl 1 rfl ?_
  refine tn_istore_n (L' := [(2, .int (iI p1)), (0, .ref a), (1, .int (iI p1))]) dX4_addFrames_1 rfl (by decide) rfl ?_
  refine tn_sub [1, 0] rfl (l_X4_addFrames_2 (d) (T := T) (σ := σ) (a := a) ha hw (by omega) (by omega) (fun i21 r7 => ?_) _ (p1) (by omega) rfl)
  show Tn _ _ 26 T σ [(0, .ref a), (2, .int (iI i21))] [] _
  refine tn_iconst dX4_addFrames_26 ?_
  refine tn_istore_n (L' := [(3, .int (iI 0)), (0, .ref a), (2, .int (iI i21))]) dX4_addFrames_27 rfl (by decide) rfl ?_
  refine tn_sub [1, 2, 0] rfl (l_X4_addFrames_28 (d) (T := T) (σ0 := σ) (a := a) (c2 := i21) ha (by omega) hw (by omega) (by omega) (fun i38 σ9 w12 F13 r14 => ?_) _ (0) σ hw FrC.rfl (by omega) rfl)
  show Tn _ _ 240 T σ9 [(0, .ref a), (2, .int (iI i21)), (3, .int (iI i38))] [] _
  refine tn_aload_n dX4_addFrames_240 rfl 0 rfl ?_
  have nn22 : 0 ≤ σ.2.1 25 a := (by omega)
  obtain ⟨x19, hx20, hk21⟩ := (wf_25 hw ha).resolve_left (by omega)
  have hk21o : OB T x19 1 := ⟨by omega, by rw [hk21]; rfl, by omega⟩
  refine tn_getR (ci := 4) (i := 2) (n := 25) (x := x19) dX4_addFrames_241 rfl lay_4 (by decide) fl4_19 ha rfl rfl (rc_F F13 (Or.inl (by decide)) (by decide) (hx20)) ?_
  refine tn_aload_n dX4_addFrames_244 rfl 0 rfl ?_
  refine tn_getI (ci := 4) (i := 6) (n := 29) (t := σ.2.1 29 a) dX4_addFrames_245 rfl lay_4 (by decide) fl4_69 ha rfl rfl (rc_F F13 (Or.inl (by decide)) (by decide) (rfl)) ?_
  have g23 : ((-2147483648 : Int) ≤ σ.2.1 29 a ∧ σ.2.1 29 a ≤ 2147483647) := wf_29 hw ha
  refine tn_aload_n dX4_addFrames_248 rfl 0 rfl ?_
  have nn31 : 0 ≤ σ.2.1 26 a := (by omega)
  obtain ⟨x28, hx29, hk30⟩ := (wf_26 hw ha).resolve_left (by omega)
  have hk30o : OB T x28 1 := ⟨by omega, by rw [hk30]; rfl, by omega⟩
  refine tn_getR (ci := 4) (i := 3) (n := 26) (x := x28) dX4_addFrames_249 rfl lay_4 (by decide) fl4_33 ha rfl rfl (rc_F F13 (Or.inl (by decide)) (by decide) (hx29)) ?_
  refine tn_getI (ci := 1) (i := 5) (n := 10) (t := σ.2.1 10 x28) dX4_addFrames_252 rfl lay_1 (by decide) fl4_66 hk30o rfl rfl (rc_F F13 (Or.inl (by decide)) (by decide) (rfl)) ?_
  have g32 : ((0 : Int) ≤ σ.2.1 10 x28 ∧ σ.2.1 10 x28 ≤ 12) := wf_10 hw hk30o
  have q33 := hf x28 hx29
  refine tn_iadd dX4_addFrames_255 ?_
  refine tn_putV (ci := 1) (i := 5) (n := 10) (r := false) (v := (σ.2.1 29 a) + (σ.2.1 10 x28)) tyX1 tyX1_ok nmX1 dX4_addFrames_256 rfl lay_1 (by decide) fl4_66 rfl (tyX1_ok 5 (by decide)) rfl rfl rfl hk21o rfl rfl ?_
  exact tn_vret rfl dX4_addFrames_259 ⟨rfl, rfl, (w12.put (by decide) (by decide) (fo_10 (by omega))), ((FrC.rfl.trans (FrC.sub F13 (by decide))).put (by decide) (by decide))⟩
end
section
theorem cd_X4_meltAt : Cond.code yX4_meltAt cX4_meltAt 4 (some .boolean) ∈ pWW := pw5 (List.mem_of_getElem? (i := 144) rfl) rfl
abbrev m_X4_meltAt : MT := (yX4_meltAt, cX4_meltAt, 4, (some .boolean))
theorem ok_X4_meltAt : pOk m_X4_meltAt := ⟨⟨cd_X4_meltAt, ini_4⟩, by decide +kernel, ⟨by decide +kernel, by decide +kernel⟩, Nat.le_of_ble_eq_true rfl⟩
theorem np_X4_meltAt : (parseMethodDescriptor yX4_meltAt.desc).map (fun d => d.parameters.length) = some 1 := by decide +kernel
theorem im_X4_meltAt : Cond.instanceMethod yX4_meltAt ∈ pWW := pw5 (List.mem_of_getElem? (i := 143) rfl) rfl
theorem se_X4_meltAt : Cond.selects RX4 yX4_meltAt yX4_meltAt ∈ pWW := pws (List.mem_map.mpr ⟨_, lw_pin 65 rfl, rfl⟩) rfl
theorem ml4_48 : Cond.methodLink RX4 48 yX3_findLiving ∈ pWW := pw5 (List.mem_of_getElem? (i := 145) rfl) rfl
theorem ml4_54 : Cond.methodLink RX4 54 yX1_registers ∈ pWW := pw5 (List.mem_of_getElem? (i := 146) rfl) rfl
theorem ml4_60 : Cond.methodLink RX4 60 yX1_greatestLabel ∈ pWW := pw5 (List.mem_of_getElem? (i := 147) rfl) rfl
theorem ml4_75 : Cond.methodLink RX4 75 yX4_rowsNeeded ∈ pWW := pw5 (List.mem_of_getElem? (i := 151) rfl) rfl
theorem dX4_meltAt_0 : decode cX4_meltAt 0 = .ok (.aload_n 0, 1) := by decide +kernel
theorem dX4_meltAt_1 : decode cX4_meltAt 1 = .ok (.getfield 15, 3) := by decide +kernel
theorem dX4_meltAt_4 : decode cX4_meltAt 4 = .ok (.aload_n 0, 1) := by decide +kernel
theorem dX4_meltAt_5 : decode cX4_meltAt 5 = .ok (.getfield 33, 3) := by decide +kernel
theorem dX4_meltAt_8 : decode cX4_meltAt 8 = .ok (.invokevirtual 48, 3) := by decide +kernel
theorem dX4_meltAt_11 : decode cX4_meltAt 11 = .ok (.aload_n 0, 1) := by decide +kernel
theorem dX4_meltAt_12 : decode cX4_meltAt 12 = .ok (.aload_n 0, 1) := by decide +kernel
theorem dX4_meltAt_13 : decode cX4_meltAt 13 = .ok (.getfield 19, 3) := by decide +kernel
theorem dX4_meltAt_16 : decode cX4_meltAt 16 = .ok (.invokevirtual 54, 3) := by decide +kernel
theorem dX4_meltAt_19 : decode cX4_meltAt 19 = .ok (.putfield 57, 3) := by decide +kernel
theorem dX4_meltAt_22 : decode cX4_meltAt 22 = .ok (.aload_n 0, 1) := by decide +kernel
theorem dX4_meltAt_23 : decode cX4_meltAt 23 = .ok (.aload_n 0, 1) := by decide +kernel
theorem dX4_meltAt_24 : decode cX4_meltAt 24 = .ok (.getfield 19, 3) := by decide +kernel
theorem dX4_meltAt_27 : decode cX4_meltAt 27 = .ok (.invokevirtual 60, 3) := by decide +kernel
theorem dX4_meltAt_30 : decode cX4_meltAt 30 = .ok (.iconst 1, 1) := by decide +kernel
theorem dX4_meltAt_31 : decode cX4_meltAt 31 = .ok (.iadd, 1) := by decide +kernel
theorem dX4_meltAt_32 : decode cX4_meltAt 32 = .ok (.putfield 63, 3) := by decide +kernel
theorem dX4_meltAt_35 : decode cX4_meltAt 35 = .ok (.aload_n 0, 1) := by decide +kernel
theorem dX4_meltAt_36 : decode cX4_meltAt 36 = .ok (.aload_n 0, 1) := by decide +kernel
theorem dX4_meltAt_37 : decode cX4_meltAt 37 = .ok (.getfield 19, 3) := by decide +kernel
theorem dX4_meltAt_40 : decode cX4_meltAt 40 = .ok (.getfield 66, 3) := by decide +kernel
theorem dX4_meltAt_43 : decode cX4_meltAt 43 = .ok (.putfield 69, 3) := by decide +kernel
theorem dX4_meltAt_46 : decode cX4_meltAt 46 = .ok (.aload_n 0, 1) := by decide +kernel
theorem dX4_meltAt_47 : decode cX4_meltAt 47 = .ok (.aload_n 0, 1) := by decide +kernel
theorem dX4_meltAt_48 : decode cX4_meltAt 48 = .ok (.getfield 63, 3) := by decide +kernel
theorem dX4_meltAt_51 : decode cX4_meltAt 51 = .ok (.aload_n 0, 1) := by decide +kernel
theorem dX4_meltAt_52 : decode cX4_meltAt 52 = .ok (.getfield 33, 3) := by decide +kernel
theorem dX4_meltAt_55 : decode cX4_meltAt 55 = .ok (.invokevirtual 60, 3) := by decide +kernel
theorem dX4_meltAt_58 : decode cX4_meltAt 58 = .ok (.iadd, 1) := by decide +kernel
theorem dX4_meltAt_59 : decode cX4_meltAt 59 = .ok (.iconst 1, 1) := by decide +kernel
theorem dX4_meltAt_60 : decode cX4_meltAt 60 = .ok (.iadd, 1) := by decide +kernel
theorem dX4_meltAt_61 : decode cX4_meltAt 61 = .ok (.putfield 72, 3) := by decide +kernel
theorem dX4_meltAt_64 : decode cX4_meltAt 64 = .ok (.aload_n 0, 1) := by decide +kernel
theorem dX4_meltAt_65 : decode cX4_meltAt 65 = .ok (.invokevirtual 75, 3) := by decide +kernel
theorem dX4_meltAt_68 : decode cX4_meltAt 68 = .ok (.iconst 1, 1) := by decide +kernel
theorem dX4_meltAt_69 : decode cX4_meltAt 69 = .ok (.isub, 1) := by decide +kernel
theorem dX4_meltAt_70 : decode cX4_meltAt 70 = .ok (.istore_n 2, 1) := by decide +kernel
theorem dX4_meltAt_71 : decode cX4_meltAt 71 = .ok (.aload_n 0, 1) := by decide +kernel
theorem dX4_meltAt_72 : decode cX4_meltAt 72 = .ok (.getfield 19, 3) := by decide +kernel
theorem dX4_meltAt_75 : decode cX4_meltAt 75 = .ok (.getfield 23, 3) := by decide +kernel
theorem dX4_meltAt_78 : decode cX4_meltAt 78 = .ok (.iload_n 2, 1) := by decide +kernel
theorem dX4_meltAt_79 : decode cX4_meltAt 79 = .ok (.iadd, 1) := by decide +kernel
theorem dX4_meltAt_80 : decode cX4_meltAt 80 = .ok (.sipush 200, 3) := by decide +kernel
theorem dX4_meltAt_83 : decode cX4_meltAt 83 = .ok (.if_icmp .gt 37, 3) := by decide +kernel
theorem dX4_meltAt_120 : decode cX4_meltAt 120 = .ok (.iconst 0, 1) := by decide +kernel
theorem dX4_meltAt_121 : decode cX4_meltAt 121 = .ok (.ireturn, 1) := by decide +kernel
theorem dX4_meltAt_86 : decode cX4_meltAt 86 = .ok (.aload_n 0, 1) := by decide +kernel
theorem dX4_meltAt_87 : decode cX4_meltAt 87 = .ok (.getfield 69, 3) := by decide +kernel
theorem dX4_meltAt_90 : decode cX4_meltAt 90 = .ok (.aload_n 0, 1) := by decide +kernel
theorem dX4_meltAt_91 : decode cX4_meltAt 91 = .ok (.getfield 33, 3) := by decide +kernel
theorem dX4_meltAt_94 : decode cX4_meltAt 94 = .ok (.getfield 66, 3) := by decide +kernel
theorem dX4_meltAt_97 : decode cX4_meltAt 97 = .ok (.iadd, 1) := by decide +kernel
theorem dX4_meltAt_98 : decode cX4_meltAt 98 = .ok (.bipush 12, 2) := by decide +kernel
theorem dX4_meltAt_100 : decode cX4_meltAt 100 = .ok (.if_icmp .gt 20, 3) := by decide +kernel
theorem dX4_meltAt_103 : decode cX4_meltAt 103 = .ok (.aload_n 0, 1) := by decide +kernel
theorem dX4_meltAt_104 : decode cX4_meltAt 104 = .ok (.getfield 57, 3) := by decide +kernel
theorem dX4_meltAt_107 : decode cX4_meltAt 107 = .ok (.aload_n 0, 1) := by decide +kernel
theorem dX4_meltAt_108 : decode cX4_meltAt 108 = .ok (.getfield 33, 3) := by decide +kernel
theorem dX4_meltAt_111 : decode cX4_meltAt 111 = .ok (.invokevirtual 54, 3) := by decide +kernel
theorem dX4_meltAt_114 : decode cX4_meltAt 114 = .ok (.iadd, 1) := by decide +kernel
theorem dX4_meltAt_115 : decode cX4_meltAt 115 = .ok (.bipush 100, 2) := by decide +kernel
theorem dX4_meltAt_117 : decode cX4_meltAt 117 = .ok (.if_icmp .le 5, 3) := by decide +kernel
theorem dX4_meltAt_122 : decode cX4_meltAt 122 = .ok (.aload_n 0, 1) := by decide +kernel
theorem dX4_meltAt_123 : decode cX4_meltAt 123 = .ok (.aload_n 0, 1) := by decide +kernel
theorem dX4_meltAt_124 : decode cX4_meltAt 124 = .ok (.getfield 19, 3) := by decide +kernel
theorem dX4_meltAt_127 : decode cX4_meltAt 127 = .ok (.iload_n 1, 1) := by decide +kernel
theorem dX4_meltAt_128 : decode cX4_meltAt 128 = .ok (.iconst 1, 1) := by decide +kernel
theorem dX4_meltAt_129 : decode cX4_meltAt 129 = .ok (.invokevirtual 29, 3) := by decide +kernel
theorem dX4_meltAt_132 : decode cX4_meltAt 132 = .ok (.putfield 78, 3) := by decide +kernel
theorem dX4_meltAt_135 : decode cX4_meltAt 135 = .ok (.iconst 0, 1) := by decide +kernel
theorem dX4_meltAt_136 : decode cX4_meltAt 136 = .ok (.istore_n 3, 1) := by decide +kernel
theorem dX4_meltAt_137 : decode cX4_meltAt 137 = .ok (.iload_n 3, 1) := by decide +kernel
theorem dX4_meltAt_138 : decode cX4_meltAt 138 = .ok (.aload_n 0, 1) := by decide +kernel
theorem dX4_meltAt_139 : decode cX4_meltAt 139 = .ok (.getfield 9, 3) := by decide +kernel
theorem dX4_meltAt_142 : decode cX4_meltAt 142 = .ok (.arraylength, 1) := by decide +kernel
theorem dX4_meltAt_143 : decode cX4_meltAt 143 = .ok (.if_icmp .ge 28, 3) := by decide +kernel
theorem dX4_meltAt_146 : decode cX4_meltAt 146 = .ok (.aload_n 0, 1) := by decide +kernel
theorem dX4_meltAt_147 : decode cX4_meltAt 147 = .ok (.getfield 9, 3) := by decide +kernel
theorem dX4_meltAt_150 : decode cX4_meltAt 150 = .ok (.iload_n 3, 1) := by decide +kernel
theorem dX4_meltAt_151 : decode cX4_meltAt 151 = .ok (.aload_n 0, 1) := by decide +kernel
theorem dX4_meltAt_152 : decode cX4_meltAt 152 = .ok (.getfield 19, 3) := by decide +kernel
theorem dX4_meltAt_155 : decode cX4_meltAt 155 = .ok (.iload_n 1, 1) := by decide +kernel
theorem dX4_meltAt_156 : decode cX4_meltAt 156 = .ok (.iconst 3, 1) := by decide +kernel
theorem dX4_meltAt_157 : decode cX4_meltAt 157 = .ok (.iload_n 3, 1) := by decide +kernel
theorem dX4_meltAt_158 : decode cX4_meltAt 158 = .ok (.iadd, 1) := by decide +kernel
theorem dX4_meltAt_159 : decode cX4_meltAt 159 = .ok (.invokevirtual 29, 3) := by decide +kernel
theorem dX4_meltAt_162 : decode cX4_meltAt 162 = .ok (.invokestatic 81, 3) := by decide +kernel
theorem dX4_meltAt_165 : decode cX4_meltAt 165 = .ok (.iinc 3 1, 3) := by decide +kernel
theorem dX4_meltAt_168 : decode cX4_meltAt 168 = .ok (.goto (-31), 3) := by decide +kernel
set_option maxRecDepth 20000 in
theorem l_X4_meltAt_137 (d : Nat) {T : CT} {σ0 : MS} {a : Nat} {c1 : Int} {c2 : Int} {post : Option Value → CT → MS → Prop} (h_a : OB T a 4) (r_c1 : -2147483648 ≤ c1 ∧ c1 ≤ 2147483647) (r_c2 : -1 ≤ c2 ∧ c2 ≤ 999) (hw0 : WT T σ0) (hh : 0 ≤ σ0.2.1 25 a) (hg : 0 ≤ σ0.2.1 26 a) (hx_171 : ∀ (i3 : Int) (σ : MS) , (WT T σ) → (FrC T [] σ0 σ) → (0 ≤ i3 ∧ i3 ≤ 2147483647) → Tn (d + 5) m_X4_meltAt 171 T σ [(0, .ref a), (1, .int (iI c1)), (2, .int (iI c2)), (3, .int (iI i3))] [] post) : ∀ (n : Nat) (i3 : Int) (σ : MS) , (WT T σ) → (FrC T [] σ0 σ) → (0 ≤ i3 ∧ i3 ≤ 2147483647) → (2147483700 - i3).toNat = n → Tn (d + 5) m_X4_meltAt 137 T σ [(0, .ref a), (1, .int (iI c1)), (2, .int (iI c2)), (3, .int (iI i3))] [] post := by
  intro n
  induction n using Nat.strongRecOn with
  | _ n ih =>
    intro i3 σ hw hF r_i3 hm
    refine tn_iload_n dX4_meltAt_137 rfl 3 rfl ?_
    refine tn_aload_n dX4_meltAt_138 rfl 0 rfl ?_
    obtain ⟨x1, hx2, hk3, hl4⟩ : ∃ x : Nat, σ0.2.1 24 a = (x : Int) ∧ AR T x 1 8 8 := wf_24 hw0 h_a
    have hk3i : IA T x1 := by unfold IA; omega
    refine tn_getR (ci := 4) (i := 1) (n := 24) (x := x1) dX4_meltAt_139 rfl lay_4 (by decide) fl4_9 h_a rfl rfl (rc_F hF (Or.inl (by decide)) (by decide) (hx2)) ?_
    refine tn_alenX dX4_meltAt_142 (Or.inl hk3i) ?_
    refine tn_icmp_ge (tgt := 171) dX4_meltAt_143 (by decide) ⟨by omega, by omega⟩ ⟨by omega, by omega⟩ (fun h5 => ?_) (fun h5 => ?_)
    · exact tn_sub [0, 1, 2, 3] rfl (hx_171 (i3) σ hw (FrC.rfl.trans (FrC.sub hF (by decide))) (by omega))
    · refine tn_aload_n dX4_meltAt_146 rfl 0 rfl ?_
      refine tn_getR (ci := 4) (i := 1) (n := 24) (x := x1) dX4_meltAt_147 rfl lay_4 (by decide) fl4_9 h_a rfl rfl (rc_F hF (Or.inl (by decide)) (by decide) (hx2)) ?_
      refine tn_iload_n dX4_meltAt_150 rfl 3 rfl ?_
      refine tn_aload_n dX4_meltAt_151 rfl 0 rfl ?_
      have nn13 : 0 ≤ σ0.2.1 25 a := (by omega)
      obtain ⟨x10, hx11, hk12⟩ := (wf_25 hw0 h_a).resolve_left (by omega)
      have hk12o : OB T x10 1 := ⟨by omega, by rw [hk12]; rfl, by omega⟩
      refine tn_getR (ci := 4) (i := 2) (n := 25) (x := x10) dX4_meltAt_152 rfl lay_4 (by decide) fl4_19 h_a rfl rfl (rc_F hF (Or.inl (by decide)) (by decide) (hx11)) ?_
      refine tn_iload_n dX4_meltAt_155 rfl 1 rfl ?_
      refine tn_iconst dX4_meltAt_156 ?_
      refine tn_iload_n dX4_meltAt_157 rfl 3 rfl ?_
      refine tn_iadd dX4_meltAt_158 ?_
      refine tn_callV (M := m_X4_meltAt) (pc := 159) (ix := 29) (ci := 1) (M' := m_X1_get) (As := [.int (iI c1), .int (iI (3 + i3))]) (rest := [.int (iI i3), .ref x1]) dX4_meltAt_159 ok_X1_get im_X1_get se_X1_get ml4_29 np_X1_get rfl rfl hk12o rfl (Nat.le_of_ble_eq_true rfl) (Nat.le_of_ble_eq_true rfl) rfl (k_X1_get (d + 3) (T := T) (σ := σ) (a := x10) (k := c1) (c := 3 + i3) hk12o (by omega) (by omega) hw (by omega)) (fun r14 T16 σ15 gt17 hp => ?_)
      obtain ⟨v19, rfl, rfl, rfl, f18⟩ := hp
      clear gt17
      show Tn _ _ 162 T σ [(0, .ref a), (1, .int (iI c1)), (2, .int (iI c2)), (3, .int (iI i3))] [.int (iI v19), .int (iI i3), .ref x1] _
      refine tn_callSN (M := m_X4_meltAt) (pc := 162) (ix := 81) (M' := m_X11_put) (As := [.ref x1, .int (iI i3), .int (iI v19)]) (rest := []) dX4_meltAt_162 ok_X11_put stt_X11_put nl4_81 np_X11_put rfl (Nat.le_of_ble_eq_true rfl) (Nat.le_of_ble_eq_true rfl) rfl (k_X11_put (d + 3) (T := T) (σ := σ) (x := x1) (i := i3) (y := v19) hk3i (by omega) (by omega) (by omega) hw (nh_k hk3 (by unfold HT; omega)) (vok_1 (by have q9 := hk3; omega) (by omega))) (fun r20 T22 σ21 gt23 hp => ?_)
      obtain ⟨rfl, rfl, w25, F26⟩ := hp
      clear gt23
      show Tn _ _ 165 T σ21 [(0, .ref a), (1, .int (iI c1)), (2, .int (iI c2)), (3, .int (iI i3))] [] _
      refine tn_iinc (q0 := 3) (L' := [(3, .int (iI (i3 + 1))), (0, .ref a), (1, .int (iI c1)), (2, .int (iI c2))]) dX4_meltAt_165 rfl (by decide) rfl ?_
      refine tn_goto (tgt := 137) dX4_meltAt_168 (by decide) ?_
      exact tn_sub [1, 2, 3, 0] rfl (ih _ (by omega) (i3 + 1) σ21 w25 ((FrC.rfl.trans (FrC.sub hF (by decide))).trans (FrC.sub F26 (by decide))) (by omega) rfl)
theorem ml4_85 : Cond.methodLink RX4 85 yX4_addFrames ∈ pWW := pw5 (List.mem_of_getElem? (i := 162) rfl) rfl
theorem ml4_89 : Cond.methodLink RX4 89 yX1_removeRow ∈ pWW := pw5 (List.mem_of_getElem? (i := 167) rfl) rfl
theorem ml4_92 : Cond.methodLink RX4 92 yX1_openRows ∈ pWW := pw5 (List.mem_of_getElem? (i := 168) rfl) rfl
theorem ml4_99 : Cond.methodLink RX4 99 yX4_addEntry ∈ pWW := pw5 (List.mem_of_getElem? (i := 172) rfl) rfl
theorem ml4_102 : Cond.methodLink RX4 102 yX4_addBody ∈ pWW := pw5 (List.mem_of_getElem? (i := 186) rfl) rfl
theorem dX4_meltAt_171 : decode cX4_meltAt 171 = .ok (.aload_n 0, 1) := by decide +kernel
theorem dX4_meltAt_172 : decode cX4_meltAt 172 = .ok (.iload_n 1, 1) := by decide +kernel
theorem dX4_meltAt_173 : decode cX4_meltAt 173 = .ok (.invokevirtual 85, 3) := by decide +kernel
theorem dX4_meltAt_176 : decode cX4_meltAt 176 = .ok (.aload_n 0, 1) := by decide +kernel
theorem dX4_meltAt_177 : decode cX4_meltAt 177 = .ok (.getfield 19, 3) := by decide +kernel
theorem dX4_meltAt_180 : decode cX4_meltAt 180 = .ok (.iload_n 1, 1) := by decide +kernel
theorem dX4_meltAt_181 : decode cX4_meltAt 181 = .ok (.invokevirtual 89, 3) := by decide +kernel
theorem dX4_meltAt_184 : decode cX4_meltAt 184 = .ok (.aload_n 0, 1) := by decide +kernel
theorem dX4_meltAt_185 : decode cX4_meltAt 185 = .ok (.getfield 19, 3) := by decide +kernel
theorem dX4_meltAt_188 : decode cX4_meltAt 188 = .ok (.iload_n 1, 1) := by decide +kernel
theorem dX4_meltAt_189 : decode cX4_meltAt 189 = .ok (.iload_n 2, 1) := by decide +kernel
theorem dX4_meltAt_190 : decode cX4_meltAt 190 = .ok (.iconst 1, 1) := by decide +kernel
theorem dX4_meltAt_191 : decode cX4_meltAt 191 = .ok (.iadd, 1) := by decide +kernel
theorem dX4_meltAt_192 : decode cX4_meltAt 192 = .ok (.invokevirtual 92, 3) := by decide +kernel
theorem dX4_meltAt_195 : decode cX4_meltAt 195 = .ok (.pop, 1) := by decide +kernel
theorem dX4_meltAt_196 : decode cX4_meltAt 196 = .ok (.aload_n 0, 1) := by decide +kernel
theorem dX4_meltAt_197 : decode cX4_meltAt 197 = .ok (.iload_n 1, 1) := by decide +kernel
theorem dX4_meltAt_198 : decode cX4_meltAt 198 = .ok (.putfield 96, 3) := by decide +kernel
theorem dX4_meltAt_201 : decode cX4_meltAt 201 = .ok (.aload_n 0, 1) := by decide +kernel
theorem dX4_meltAt_202 : decode cX4_meltAt 202 = .ok (.invokevirtual 99, 3) := by decide +kernel
theorem dX4_meltAt_205 : decode cX4_meltAt 205 = .ok (.aload_n 0, 1) := by decide +kernel
theorem dX4_meltAt_206 : decode cX4_meltAt 206 = .ok (.invokevirtual 102, 3) := by decide +kernel
theorem dX4_meltAt_209 : decode cX4_meltAt 209 = .ok (.iconst 1, 1) := by decide +kernel
theorem dX4_meltAt_210 : decode cX4_meltAt 210 = .ok (.ireturn, 1) := by decide +kernel
set_option maxRecDepth 20000 in
theorem k_X4_meltAt (d : Nat) {T : CT} {σ : MS} {a : Nat} {p1 : Int} (ha : OB T a 4) (h_p1 : -2147483648 ≤ p1 ∧ p1 ≤ 2147483647) (hw : WT T σ) (hh : 0 ≤ σ.2.1 25 a) (hg : 0 ≤ σ.2.1 26 a) : Tn (d + 5) m_X4_meltAt 0 T σ [(0, .ref a), (1, .int (iI p1))] [] (fun ro T2 σ2 => ∃ v : Int, ro = some (.int (iI v)) ∧ WT T2 σ2 ∧ FrC T [5, 6, 10, 27, 28, 29, 30, 31, 32] σ σ2 ∧ (v = 0 ∨ v = 1)) := by
  refine tn_aload_n dX4_meltAt_0 rfl 0 rfl ?_
  obtain ⟨x1, hx2, hk3⟩ : ∃ x : Nat, σ.2.1 23 a = (x : Int) ∧ (T x).1 = 33 := wf_23 hw ha
  have hk3o : OB T x1 3 := ⟨by omega, by rw [hk3]; rfl, by omega⟩
  refine tn_getR (ci := 4) (i := 0) (n := 23) (x := x1) dX4_meltAt_1 rfl lay_4 (by decide) fl4_15 ha rfl rfl (hx2) ?_
  refine tn_aload_n dX4_meltAt_4 rfl 0 rfl ?_
  have nn12 : 0 ≤ σ.2.1 26 a := (by omega)
  obtain ⟨x9, hx10, hk11⟩ := (wf_26 hw ha).resolve_left (by omega)
  have hk11o : OB T x9 1 := ⟨by omega, by rw [hk11]; rfl, by omega⟩
  refine tn_getR (ci := 4) (i := 3) (n := 26) (x := x9) dX4_meltAt_5 rfl lay_4 (by decide) fl4_33 ha rfl rfl (hx10) ?_
  refine tn_callV (M := m_X4_meltAt) (pc := 8) (ix := 48) (ci := 3) (M' := m_X3_findLiving) (As := [.ref x9]) (rest := []) dX4_meltAt_8 ok_X3_findLiving im_X3_findLiving se_X3_findLiving ml4_48 np_X3_findLiving rfl rfl hk3o rfl (Nat.le_of_ble_eq_true rfl) (Nat.le_of_ble_eq_true rfl) rfl (k_X3_findLiving (d) (T := T) (σ := σ) (a := x1) (p1 := x9) hk3o hk11o hw ) (fun r13 T15 σ14 gt16 hp => ?_)
  obtain ⟨rfl, rfl, w18, F19⟩ := hp
  clear gt16
  show Tn _ _ 11 T σ14 [(0, .ref a), (1, .int (iI p1))] [] _
  refine tn_aload_n dX4_meltAt_11 rfl 0 rfl ?_
  refine tn_aload_n dX4_meltAt_12 rfl 0 rfl ?_
  have nn27 : 0 ≤ σ.2.1 25 a := (by omega)
  obtain ⟨x24, hx25, hk26⟩ := (wf_25 hw ha).resolve_left (by omega)
  have hk26o : OB T x24 1 := ⟨by omega, by rw [hk26]; rfl, by omega⟩
  refine tn_getR (ci := 4) (i := 2) (n := 25) (x := x24) dX4_meltAt_13 rfl lay_4 (by decide) fl4_19 ha rfl rfl (rc_F F19 (Or.inl (by decide)) (by decide) (hx25)) ?_
  refine tn_callV (M := m_X4_meltAt) (pc := 16) (ix := 54) (ci := 1) (M' := m_X1_registers) (As := []) (rest := [.ref a]) dX4_meltAt_16 ok_X1_registers im_X1_registers se_X1_registers ml4_54 np_X1_registers rfl rfl hk26o rfl (Nat.le_of_ble_eq_true rfl) (Nat.le_of_ble_eq_true rfl) rfl (k_X1_registers (d) (T := T) (σ := σ14) (a := x24) hk26o w18 ) (fun r28 T30 σ29 gt31 hp => ?_)
  obtain ⟨v33, rfl, rfl, rfl, f32⟩ := hp
  clear gt31
  show Tn _ _ 19 T σ14 [(0, .ref a), (1, .int (iI p1))] [.int (iI v33), .ref a] _
  refine tn_putV (ci := 4) (i := 4) (n := 27) (r := false) (v := v33) tyX4 tyX4_ok nmX4 dX4_meltAt_19 rfl lay_4 (by decide) fl4_57 rfl (tyX4_ok 4 (by decide)) rfl rfl rfl ha rfl rfl ?_
  refine tn_aload_n dX4_meltAt_22 rfl 0 rfl ?_
  refine tn_aload_n dX4_meltAt_23 rfl 0 rfl ?_
  refine tn_getR (ci := 4) (i := 2) (n := 25) (x := x24) dX4_meltAt_24 rfl lay_4 (by decide) fl4_19 ha rfl rfl (rc_o (by decide) (rc_F F19 (Or.inl (by decide)) (by decide) (hx25))) ?_
  refine tn_callV (M := m_X4_meltAt) (pc := 27) (ix := 60) (ci := 1) (M' := m_X1_greatestLabel) (As := []) (rest := [.ref a]) dX4_meltAt_27 ok_X1_greatestLabel im_X1_greatestLabel se_X1_greatestLabel ml4_60 np_X1_greatestLabel rfl rfl hk26o rfl (Nat.le_of_ble_eq_true rfl) (Nat.le_of_ble_eq_true rfl) rfl (k_X1_greatestLabel (d + 2) (T := T) (σ := (sA 27 a (v33) σ14)) (a := x24) hk26o (w18.put (by decide) (by decide) (fo_27 (by omega))) ) (fun r34 T36 σ35 gt37 hp => ?_)
  obtain ⟨v39, rfl, rfl, rfl, f38⟩ := hp
  clear gt37
  show Tn _ _ 30 T (sA 27 a (v33) σ14) [(0, .ref a), (1, .int (iI p1))] [.int (iI v39), .ref a] _
  refine tn_iconst dX4_meltAt_30 ?_
  refine tn_iadd dX4_meltAt_31 ?_
  refine tn_any (fun z40 g41 => ?_)
  have g41r : -2147483648 ≤ z40 ∧ z40 ≤ 2147483647 := g41
  refine tn_putV (ci := 4) (i := 5) (n := 28) (r := false) (v := z40) tyX4 tyX4_ok nmX4 dX4_meltAt_32 rfl lay_4 (by decide) fl4_63 rfl (tyX4_ok 5 (by decide)) rfl rfl rfl ha rfl rfl ?_
  refine tn_aload_n dX4_meltAt_35 rfl 0 rfl ?_
  refine tn_aload_n dX4_meltAt_36 rfl 0 rfl ?_
  refine tn_getR (ci := 4) (i := 2) (n := 25) (x := x24) dX4_meltAt_37 rfl lay_4 (by decide) fl4_19 ha rfl rfl (rc_o (by decide) (rc_o (by decide) (rc_F F19 (Or.inl (by decide)) (by decide) (hx25)))) ?_
  refine tn_getI (ci := 1) (i := 5) (n := 10) (t := σ.2.1 10 x24) dX4_meltAt_40 rfl lay_1 (by decide) fl4_66 hk26o rfl rfl (rc_o (by decide) (rc_o (by decide) (rc_F F19 (Or.inl (by decide)) (by decide) (rfl)))) ?_
  have g42 : ((0 : Int) ≤ σ.2.1 10 x24 ∧ σ.2.1 10 x24 ≤ 12) := wf_10 hw hk26o
  refine tn_putV (ci := 4) (i := 6) (n := 29) (r := false) (v := σ.2.1 10 x24) tyX4 tyX4_ok nmX4 dX4_meltAt_43 rfl lay_4 (by decide) fl4_69 rfl (tyX4_ok 6 (by decide)) rfl rfl rfl ha rfl rfl ?_
  refine tn_aload_n dX4_meltAt_46 rfl 0 rfl ?_
  refine tn_aload_n dX4_meltAt_47 rfl 0 rfl ?_
  refine tn_getI (ci := 4) (i := 5) (n := 28) (t := z40) dX4_meltAt_48 rfl lay_4 (by decide) fl4_63 ha rfl rfl (rc_o (by decide) (ra_eq)) ?_
  refine tn_aload_n dX4_meltAt_51 rfl 0 rfl ?_
  refine tn_getR (ci := 4) (i := 3) (n := 26) (x := x9) dX4_meltAt_52 rfl lay_4 (by decide) fl4_33 ha rfl rfl (rc_o (by decide) (rc_o (by decide) (rc_o (by decide) (rc_F F19 (Or.inl (by decide)) (by decide) (hx10))))) ?_
  refine tn_callV (M := m_X4_meltAt) (pc := 55) (ix := 60) (ci := 1) (M' := m_X1_greatestLabel) (As := []) (rest := [.int (iI z40), .ref a]) dX4_meltAt_55 ok_X1_greatestLabel im_X1_greatestLabel se_X1_greatestLabel ml4_60 np_X1_greatestLabel rfl rfl hk11o rfl (Nat.le_of_ble_eq_true rfl) (Nat.le_of_ble_eq_true rfl) rfl (k_X1_greatestLabel (d + 2) (T := T) (σ := (sA 29 a (σ.2.1 10 x24) (sA 28 a (z40) (sA 27 a (v33) σ14)))) (a := x9) hk11o (((w18.put (by decide) (by decide) (fo_27 (by omega))).put (by decide) (by decide) (fo_28 (by omega))).put (by decide) (by decide) (fo_29 (by omega))) ) (fun r43 T45 σ44 gt46 hp => ?_)
  obtain ⟨v48, rfl, rfl, rfl, f47⟩ := hp
  clear gt46
  show Tn _ _ 58 T (sA 29 a (σ.2.1 10 x24) (sA 28 a (z40) (sA 27 a (v33) σ14))) [(0, .ref a), (1, .int (iI p1))] [.int (iI v48), .int (iI z40), .ref a] _
  refine tn_iadd dX4_meltAt_58 ?_
  refine tn_any (fun z49 g50 => ?_)
  have g50r : -2147483648 ≤ z49 ∧ z49 ≤ 2147483647 := g50
  refine tn_iconst dX4_meltAt_59 ?_
  refine tn_iadd dX4_meltAt_60 ?_
  refine tn_any (fun z51 g52 => ?_)
  have g52r : -2147483648 ≤ z51 ∧ z51 ≤ 2147483647 := g52
  refine tn_putV (ci := 4) (i := 7) (n := 30) (r := false) (v := z51) tyX4 tyX4_ok nmX4 dX4_meltAt_61 rfl lay_4 (by decide) fl4_72 rfl (tyX4_ok 7 (by decide)) rfl rfl rfl ha rfl rfl ?_
  refine tn_aload_n dX4_meltAt_64 rfl 0 rfl ?_
  refine tn_callV (M := m_X4_meltAt) (pc := 65) (ix := 75) (ci := 4) (M' := m_X4_rowsNeeded) (As := []) (rest := []) dX4_meltAt_65 ok_X4_rowsNeeded im_X4_rowsNeeded se_X4_rowsNeeded ml4_75 np_X4_rowsNeeded rfl rfl ha rfl (Nat.le_of_ble_eq_true rfl) (Nat.le_of_ble_eq_true rfl) rfl (k_X4_rowsNeeded (d) (T := T) (σ := (sA 30 a (z51) (sA 29 a (σ.2.1 10 x24) (sA 28 a (z40) (sA 27 a (v33) σ14))))) (a := a) ha ((((w18.put (by decide) (by decide) (fo_27 (by omega))).put (by decide) (by decide) (fo_28 (by omega))).put (by decide) (by decide) (fo_29 (by omega))).put (by decide) (by decide) (fo_30 (by omega))) (by rw [show (sA 30 a (z51) (sA 29 a (σ.2.1 10 x24) (sA 28 a (z40) (sA 27 a (v33) σ14)))).2.1 26 a = σ.2.1 26 a from rc_o (by decide) (rc_o (by decide) (rc_o (by decide) (rc_o (by decide) (rc_F F19 (Or.inl (by decide)) (by decide) (rfl)))))]; omega)) (fun r53 T55 σ54 gt56 hp => ?_)
  obtain ⟨v58, rfl, rfl, rfl, f57⟩ := hp
  clear gt56
  show Tn _ _ 68 T (sA 30 a (z51) (sA 29 a (σ.2.1 10 x24) (sA 28 a (z40) (sA 27 a (v33) σ14)))) [(0, .ref a), (1, .int (iI p1))] [.int (iI v58)] _
  refine tn_iconst dX4_meltAt_68 ?_
  refine tn_isub dX4_meltAt_69 ?_
  refine tn_istore_n (L' := [(2, .int (iI (v58 - 1))), (0, .ref a), (1, .int (iI p1))]) dX4_meltAt_70 rfl (by decide) rfl ?_
  refine tn_aload_n dX4_meltAt_71 rfl 1 rfl ?_
  refine tn_getR (ci := 4) (i := 2) (n := 25) (x := x24) dX4_meltAt_72 rfl lay_4 (by decide) fl4_19 ha rfl rfl (rc_o (by decide) (rc_o (by decide) (rc_o (by decide) (rc_o (by decide) (rc_F F19 (Or.inl (by decide)) (by decide) (hx25)))))) ?_
  refine tn_getI (ci := 1) (i := 1) (n := 6) (t := σ.2.1 6 x24) dX4_meltAt_75 rfl lay_1 (by decide) fl4_23 hk26o rfl rfl (rc_o (by decide) (rc_o (by decide) (rc_o (by decide) (rc_o (by decide) (rc_F F19 (Or.inl (by decide)) (by decide) (rfl)))))) ?_
  have g59 : ((0 : Int) ≤ σ.2.1 6 x24 ∧ σ.2.1 6 x24 ≤ 5000) ∧ ((T x24).1 = 50 → σ.2.1 6 x24 ≤ 200) := wf_6 hw hk26o
  have g59x := g59.2
  replace g59 := g59.1
  have g59x := g59x hk26
  refine tn_iload_n dX4_meltAt_78 rfl 0 rfl ?_
  refine tn_iadd dX4_meltAt_79 ?_
  refine tn_sipush dX4_meltAt_80 (by decide) ?_
  refine tn_icmp_gt (tgt := 120) dX4_meltAt_83 (by decide) ⟨by omega, by omega⟩ ⟨by decide, by decide⟩ (fun h60 => ?_) (fun h60 => ?_)
  · refine tn_iconst dX4_meltAt_120 ?_
    exact tn_zret (v := 0) rfl (by decide) dX4_meltAt_121 ⟨_, rfl, ((((w18.put (by decide) (by decide) (fo_27 (by omega))).put (by decide) (by decide) (fo_28 (by omega))).put (by decide) (by decide) (fo_29 (by omega))).put (by decide) (by decide) (fo_30 (by omega))), (((((FrC.rfl.trans (FrC.sub F19 (by decide))).put (by decide) (by decide)).put (by decide) (by decide)).put (by decide) (by decide)).put (by decide) (by decide)), by omega⟩
  · refine tn_aload_n dX4_meltAt_86 rfl 1 rfl ?_
    refine tn_getI (ci := 4) (i := 6) (n := 29) (t := σ.2.1 10 x24) dX4_meltAt_87 rfl lay_4 (by decide) fl4_69 ha rfl rfl (rc_o (by decide) (ra_eq)) ?_
    refine tn_aload_n dX4_meltAt_90 rfl 1 rfl ?_
    refine tn_getR (ci := 4) (i := 3) (n := 26) (x := x9) dX4_meltAt_91 rfl lay_4 (by decide) fl4_33 ha rfl rfl (rc_o (by decide) (rc_o (by decide) (rc_o (by decide) (rc_o (by decide) (rc_F F19 (Or.inl (by decide)) (by decide) (hx10)))))) ?_
    refine tn_getI (ci := 1) (i := 5) (n := 10) (t := σ.2.1 10 x9) dX4_meltAt_94 rfl lay_1 (by decide) fl4_66 hk11o rfl rfl (rc_o (by decide) (rc_o (by decide) (rc_o (by decide) (rc_o (by decide) (rc_F F19 (Or.inl (by decide)) (by decide) (rfl)))))) ?_
    have g61 : ((0 : Int) ≤ σ.2.1 10 x9 ∧ σ.2.1 10 x9 ≤ 12) := wf_10 hw hk11o
    refine tn_iadd dX4_meltAt_97 ?_
    refine tn_bipush dX4_meltAt_98 (by decide) ?_
    refine tn_icmp_gt (tgt := 120) dX4_meltAt_100 (by decide) ⟨by omega, by omega⟩ ⟨by decide, by decide⟩ (fun h62 => ?_) (fun h62 => ?_)
    · refine tn_iconst dX4_meltAt_120 ?_
      exact tn_zret (v := 0) rfl (by decide) dX4_meltAt_121 ⟨_, rfl, ((((w18.put (by decide) (by decide) (fo_27 (by omega))).put (by decide) (by decide) (fo_28 (by omega))).put (by decide) (by decide) (fo_29 (by omega))).put (by decide) (by decide) (fo_30 (by omega))), (((((FrC.rfl.trans (FrC.sub F19 (by decide))).put (by decide) (by decide)).put (by decide) (by decide)).put (by decide) (by decide)).put (by decide) (by decide)), by omega⟩
    · refine tn_aload_n dX4_meltAt_103 rfl 1 rfl ?_
      refine tn_getI (ci := 4) (i := 4) (n := 27) (t := v33) dX4_meltAt_104 rfl lay_4 (by decide) fl4_57 ha rfl rfl (rc_o (by decide) (rc_o (by decide) (rc_o (by decide) (ra_eq)))) ?_
      refine tn_aload_n dX4_meltAt_107 rfl 1 rfl ?_
      refine tn_getR (ci := 4) (i := 3) (n := 26) (x := x9) dX4_meltAt_108 rfl lay_4 (by decide) fl4_33 ha rfl rfl (rc_o (by decide) (rc_o (by decide) (rc_o (by decide) (rc_o (by decide) (rc_F F19 (Or.inl (by decide)) (by decide) (hx10)))))) ?_
      refine tn_callV (M := m_X4_meltAt) (pc := 111) (ix := 54) (ci := 1) (M' := m_X1_registers) (As := []) (rest := [.int (iI v33)]) dX4_meltAt_111 ok_X1_registers im_X1_registers se_X1_registers ml4_54 np_X1_registers rfl rfl hk11o rfl (Nat.le_of_ble_eq_true rfl) (Nat.le_of_ble_eq_true rfl) rfl (k_X1_registers (d) (T := T) (σ := (sA 30 a (z51) (sA 29 a (σ.2.1 10 x24) (sA 28 a (z40) (sA 27 a (v33) σ14))))) (a := x9) hk11o ((((w18.put (by decide) (by decide) (fo_27 (by omega))).put (by decide) (by decide) (fo_28 (by omega))).put (by decide) (by decide) (fo_29 (by omega))).put (by decide) (by decide) (fo_30 (by omega))) ) (fun r63 T65 σ64 gt66 hp => ?_)
      obtain ⟨v68, rfl, rfl, rfl, f67⟩ := hp
      clear gt66
      show Tn _ _ 114 T (sA 30 a (z51) (sA 29 a (σ.2.1 10 x24) (sA 28 a (z40) (sA 27 a (v33) σ14)))) [(2, .int (iI (v58 - 1))), (0, .ref a), (1, .int (iI p1))] [.int (iI v68), .int (iI v33)] _
      refine tn_iadd dX4_meltAt_114 ?_
      refine tn_any (fun z69 g70 => ?_)
      have g70r : -2147483648 ≤ z69 ∧ z69 ≤ 2147483647 := g70
      refine tn_bipush dX4_meltAt_115 (by decide) ?_
      refine tn_icmp_le (tgt := 122) dX4_meltAt_117 (by decide) ⟨by omega, by omega⟩ ⟨by decide, by decide⟩ (fun h71 => ?_) (fun h71 => ?_)
      · refine tn_aload_n dX4_meltAt_122 rfl 1 rfl ?_
        refine tn_aload_n dX4_meltAt_123 rfl 1 rfl ?_
        refine tn_getR (ci := 4) (i := 2) (n := 25) (x := x24) dX4_meltAt_124 rfl lay_4 (by decide) fl4_19 ha rfl rfl (rc_o (by decide) (rc_o (by decide) (rc_o (by decide) (rc_o (by decide) (rc_F F19 (Or.inl (by decide)) (by decide) (hx25)))))) ?_
        refine tn_iload_n dX4_meltAt_127 rfl 2 rfl ?_
        refine tn_iconst dX4_meltAt_128 ?_
        refine tn_callV (M := m_X4_meltAt) (pc := 129) (ix := 29) (ci := 1) (M' := m_X1_get) (As := [.int (iI p1), .int (iI 1)]) (rest := [.ref a]) dX4_meltAt_129 ok_X1_get im_X1_get se_X1_get ml4_29 np_X1_get rfl rfl hk26o rfl (Nat.le_of_ble_eq_true rfl) (Nat.le_of_ble_eq_true rfl) rfl (k_X1_get (d + 3) (T := T) (σ := (sA 30 a (z51) (sA 29 a (σ.2.1 10 x24) (sA 28 a (z40) (sA 27 a (v33) σ14))))) (a := x24) (k := p1) (c := 1) hk26o (by omega) (by decide) ((((w18.put (by decide) (by decide) (fo_27 (by omega))).put (by decide) (by decide) (fo_28 (by omega))).put (by decide) (by decide) (fo_29 (by omega))).put (by decide) (by decide) (fo_30 (by omega))) (by omega)) (fun r72 T74 σ73 gt75 hp => ?_)
        obtain ⟨v77, rfl, rfl, rfl, f76⟩ := hp
        clear gt75
        show Tn _ _ 132 T (sA 30 a (z51) (sA 29 a (σ.2.1 10 x24) (sA 28 a (z40) (sA 27 a (v33) σ14)))) [(2, .int (iI (v58 - 1))), (0, .ref a), (1, .int (iI p1))] [.int (iI v77), .ref a] _
        refine tn_putV (ci := 4) (i := 8) (n := 31) (r := false) (v := v77) tyX4 tyX4_ok nmX4 dX4_meltAt_132 rfl lay_4 (by decide) fl4_78 rfl (tyX4_ok 8 (by decide)) rfl rfl rfl ha rfl rfl ?_
        refine tn_iconst dX4_meltAt_135 ?_
        refine tn_istore_n (L' := [(3, .int (iI 0)), (2, .int (iI (v58 - 1))), (0, .ref a), (1, .int (iI p1))]) dX4_meltAt_136 rfl (by decide) rfl ?_
        refine tn_sub [2, 3, 1, 0] rfl (l_X4_meltAt_137 (d) (T := T) (σ0 := (sA 31 a (v77) (sA 30 a (z51) (sA 29 a (σ.2.1 10 x24) (sA 28 a (z40) (sA 27 a (v33) σ14)))))) (a := a) (c1 := p1) (c2 := v58 - 1) ha (by omega) (by omega) (((((w18.put (by decide) (by decide) (fo_27 (by omega))).put (by decide) (by decide) (fo_28 (by omega))).put (by decide) (by decide) (fo_29 (by omega))).put (by decide) (by decide) (fo_30 (by omega))).put (by decide) (by decide) (fo_31 (by omega))) (by rw [show (sA 31 a (v77) (sA 30 a (z51) (sA 29 a (σ.2.1 10 x24) (sA 28 a (z40) (sA 27 a (v33) σ14))))).2.1 25 a = σ.2.1 25 a from rc_o (by decide) (rc_o (by decide) (rc_o (by decide) (rc_o (by decide) (rc_o (by decide) (rc_F F19 (Or.inl (by decide)) (by decide) (rfl))))))]; omega) (by rw [show (sA 31 a (v77) (sA 30 a (z51) (sA 29 a (σ.2.1 10 x24) (sA 28 a (z40) (sA 27 a (v33) σ14))))).2.1 26 a = σ.2.1 26 a from rc_o (by decide) (rc_o (by decide) (rc_o (by decide) (rc_o (by decide) (rc_o (by decide) (rc_F F19 (Or.inl (by decide)) (by decide) (rfl))))))]; omega) (fun i378 σ79 w82 F83 r84 => ?_) _ (0) (sA 31 a (v77) (sA 30 a (z51) (sA 29 a (σ.2.1 10 x24) (sA 28 a (z40) (sA 27 a (v33) σ14))))) (((((w18.put (by decide) (by decide) (fo_27 (by omega))).put (by decide) (by decide) (fo_28 (by omega))).put (by decide) (by decide) (fo_29 (by omega))).put (by decide) (by decide) (fo_30 (by omega))).put (by decide) (by decide) (fo_31 (by omega))) FrC.rfl (by omega) rfl)
        show Tn _ _ 171 T σ79 [(0, .ref a), (1, .int (iI p1)), (2, .int (iI (v58 - 1))), (3, .int (iI i378))] [] _
        refine tn_aload_n dX4_meltAt_171 rfl 0 rfl ?_
        refine tn_iload_n dX4_meltAt_172 rfl 1 rfl ?_
        refine tn_callV (M := m_X4_meltAt) (pc := 173) (ix := 85) (ci := 4) (M' := m_X4_addFrames) (As := [.int (iI p1)]) (rest := []) dX4_meltAt_173 ok_X4_addFrames im_X4_addFrames se_X4_addFrames ml4_85 np_X4_addFrames rfl rfl ha rfl (Nat.le_of_ble_eq_true rfl) (Nat.le_of_ble_eq_true rfl) rfl (k_X4_addFrames (d + 1) (T := T) (σ := σ79) (a := a) (p1 := p1) ha (by omega) w82 (by rw [show σ79.2.1 25 a = σ.2.1 25 a from rc_F F83 (Or.inl (by decide)) (by decide) (rc_o (by decide) (rc_o (by decide) (rc_o (by decide) (rc_o (by decide) (rc_o (by decide) (rc_F F19 (Or.inl (by decide)) (by decide) (rfl)))))))]; omega) (by rw [show σ79.2.1 26 a = σ.2.1 26 a from rc_F F83 (Or.inl (by decide)) (by decide) (rc_o (by decide) (rc_o (by decide) (rc_o (by decide) (rc_o (by decide) (rc_o (by decide) (rc_F F19 (Or.inl (by decide)) (by decide) (rfl)))))))]; omega) (FRB.of (rc_F F83 (Or.inl (by decide)) (by decide) (rc_o (by decide) (rc_o (by decide) (rc_o (by decide) (rc_o (by decide) (rc_o (by decide) (rc_F F19 (Or.inl (by decide)) (by decide) (hx10)))))))) (by rw [show σ79.2.1 29 a = σ.2.1 10 x24 from rc_F F83 (Or.inl (by decide)) (by decide) (rc_o (by decide) (rc_o (by decide) (ra_eq))), show σ79.2.1 10 x9 = σ.2.1 10 x9 from rc_F F83 (Or.inl (by decide)) (by decide) (rc_o (by decide) (rc_o (by decide) (rc_o (by decide) (rc_o (by decide) (rc_o (by decide) (rc_F F19 (Or.inl (by decide)) (by decide) (rfl)))))))]; omega))) (fun r85 T87 σ86 gt88 hp => ?_)
        obtain ⟨rfl, rfl, w90, F91⟩ := hp
        clear gt88
        show Tn _ _ 176 T σ86 [(0, .ref a), (1, .int (iI p1)), (2, .int (iI (v58 - 1))), (3, .int (iI i378))] [] _
        refine tn_aload_n dX4_meltAt_176 rfl 0 rfl ?_
        refine tn_getR (ci := 4) (i := 2) (n := 25) (x := x24) dX4_meltAt_177 rfl lay_4 (by decide) fl4_19 ha rfl rfl (rc_F F91 (Or.inl (by decide)) (by decide) (rc_F F83 (Or.inl (by decide)) (by decide) (rc_o (by decide) (rc_o (by decide) (rc_o (by decide) (rc_o (by decide) (rc_o (by decide) (rc_F F19 (Or.inl (by decide)) (by decide) (hx25))))))))) ?_
        refine tn_iload_n dX4_meltAt_180 rfl 1 rfl ?_
        refine tn_callV (M := m_X4_meltAt) (pc := 181) (ix := 89) (ci := 1) (M' := m_X1_removeRow) (As := [.int (iI p1)]) (rest := []) dX4_meltAt_181 ok_X1_removeRow im_X1_removeRow se_X1_removeRow ml4_89 np_X1_removeRow rfl rfl hk26o rfl (Nat.le_of_ble_eq_true rfl) (Nat.le_of_ble_eq_true rfl) rfl (k_X1_removeRow (d + 3) (T := T) (σ := σ86) (a := x24) (k := p1) hk26o hk26 (by omega) w90 ) (fun r92 T94 σ93 gt95 hp => ?_)
        obtain ⟨rfl, rfl, w97, F98⟩ := hp
        clear gt95
        show Tn _ _ 184 T σ93 [(0, .ref a), (1, .int (iI p1)), (2, .int (iI (v58 - 1))), (3, .int (iI i378))] [] _
        refine tn_aload_n dX4_meltAt_184 rfl 0 rfl ?_
        refine tn_getR (ci := 4) (i := 2) (n := 25) (x := x24) dX4_meltAt_185 rfl lay_4 (by decide) fl4_19 ha rfl rfl (rc_F F98 (Or.inl (by decide)) (by decide) (rc_F F91 (Or.inl (by decide)) (by decide) (rc_F F83 (Or.inl (by decide)) (by decide) (rc_o (by decide) (rc_o (by decide) (rc_o (by decide) (rc_o (by decide) (rc_o (by decide) (rc_F F19 (Or.inl (by decide)) (by decide) (hx25)))))))))) ?_
        refine tn_iload_n dX4_meltAt_188 rfl 1 rfl ?_
        refine tn_iload_n dX4_meltAt_189 rfl 2 rfl ?_
        refine tn_iconst dX4_meltAt_190 ?_
        refine tn_iadd dX4_meltAt_191 ?_
        refine tn_callV (M := m_X4_meltAt) (pc := 192) (ix := 92) (ci := 1) (M' := m_X1_openRows) (As := [.int (iI p1), .int (iI ((v58 - 1) + 1))]) (rest := []) dX4_meltAt_192 ok_X1_openRows im_X1_openRows se_X1_openRows ml4_92 np_X1_openRows rfl rfl hk26o rfl (Nat.le_of_ble_eq_true rfl) (Nat.le_of_ble_eq_true rfl) rfl (k_X1_openRows (d + 1) (T := T) (σ := σ93) (a := x24) (k := p1) (n := (v58 - 1) + 1) hk26o hk26 (by omega) (by omega) w97 (by omega)) (fun r99 T101 σ100 gt102 hp => ?_)
        obtain ⟨v104, rfl, w105, F106, f103⟩ := hp
        replace ha : OB T101 a 4 := gt102.ob ha
        show Tn _ _ 195 T101 σ100 [(0, .ref a), (1, .int (iI p1)), (2, .int (iI (v58 - 1))), (3, .int (iI i378))] [.int (iI v104)] _
        refine tn_pop dX4_meltAt_195 rfl ?_
        refine tn_aload_n dX4_meltAt_196 rfl 0 rfl ?_
        refine tn_iload_n dX4_meltAt_197 rfl 1 rfl ?_
        refine tn_putV (ci := 4) (i := 9) (n := 32) (r := false) (v := p1) tyX4 tyX4_ok nmX4 dX4_meltAt_198 rfl lay_4 (by decide) fl4_96 rfl (tyX4_ok 9 (by decide)) rfl rfl rfl ha rfl rfl ?_
        refine tn_aload_n dX4_meltAt_201 rfl 0 rfl ?_
        refine tn_callV (M := m_X4_meltAt) (pc := 202) (ix := 99) (ci := 4) (M' := m_X4_addEntry) (As := []) (rest := []) dX4_meltAt_202 ok_X4_addEntry im_X4_addEntry se_X4_addEntry ml4_99 np_X4_addEntry rfl rfl ha rfl (Nat.le_of_ble_eq_true rfl) (Nat.le_of_ble_eq_true rfl) rfl (k_X4_addEntry (d) (T := T101) (σ := (sA 32 a (p1) σ100)) (a := a) ha (w105.put (by decide) (by decide) (fo_32 (by omega))) (by rw [show (sA 32 a (p1) σ100).2.1 25 a = σ.2.1 25 a from rc_o (by decide) (rc_F F106 (Or.inl (by decide)) (by decide) (rc_F F98 (Or.inl (by decide)) (by decide) (rc_F F91 (Or.inl (by decide)) (by decide) (rc_F F83 (Or.inl (by decide)) (by decide) (rc_o (by decide) (rc_o (by decide) (rc_o (by decide) (rc_o (by decide) (rc_o (by decide) (rc_F F19 (Or.inl (by decide)) (by decide) (rfl)))))))))))]; omega) (by rw [show (sA 32 a (p1) σ100).2.1 26 a = σ.2.1 26 a from rc_o (by decide) (rc_F F106 (Or.inl (by decide)) (by decide) (rc_F F98 (Or.inl (by decide)) (by decide) (rc_F F91 (Or.inl (by decide)) (by decide) (rc_F F83 (Or.inl (by decide)) (by decide) (rc_o (by decide) (rc_o (by decide) (rc_o (by decide) (rc_o (by decide) (rc_o (by decide) (rc_F F19 (Or.inl (by decide)) (by decide) (rfl)))))))))))]; omega)) (fun r107 T109 σ108 gt110 hp => ?_)
        obtain ⟨rfl, rfl, w112, F113⟩ := hp
        clear gt110
        show Tn _ _ 205 T101 σ108 [(0, .ref a), (1, .int (iI p1)), (2, .int (iI (v58 - 1))), (3, .int (iI i378))] [] _
        refine tn_aload_n dX4_meltAt_205 rfl 0 rfl ?_
        refine tn_callV (M := m_X4_meltAt) (pc := 206) (ix := 102) (ci := 4) (M' := m_X4_addBody) (As := []) (rest := []) dX4_meltAt_206 ok_X4_addBody im_X4_addBody se_X4_addBody ml4_102 np_X4_addBody rfl rfl ha rfl (Nat.le_of_ble_eq_true rfl) (Nat.le_of_ble_eq_true rfl) rfl (k_X4_addBody (d) (T := T101) (σ := σ108) (a := a) ha w112 (by rw [show σ108.2.1 25 a = σ.2.1 25 a from rc_F F113 (Or.inl (by decide)) (by decide) (rc_o (by decide) (rc_F F106 (Or.inl (by decide)) (by decide) (rc_F F98 (Or.inl (by decide)) (by decide) (rc_F F91 (Or.inl (by decide)) (by decide) (rc_F F83 (Or.inl (by decide)) (by decide) (rc_o (by decide) (rc_o (by decide) (rc_o (by decide) (rc_o (by decide) (rc_o (by decide) (rc_F F19 (Or.inl (by decide)) (by decide) (rfl))))))))))))]; omega) (by rw [show σ108.2.1 26 a = σ.2.1 26 a from rc_F F113 (Or.inl (by decide)) (by decide) (rc_o (by decide) (rc_F F106 (Or.inl (by decide)) (by decide) (rc_F F98 (Or.inl (by decide)) (by decide) (rc_F F91 (Or.inl (by decide)) (by decide) (rc_F F83 (Or.inl (by decide)) (by decide) (rc_o (by decide) (rc_o (by decide) (rc_o (by decide) (rc_o (by decide) (rc_o (by decide) (rc_F F19 (Or.inl (by decide)) (by decide) (rfl))))))))))))]; omega)) (fun r114 T116 σ115 gt117 hp => ?_)
        obtain ⟨rfl, rfl, w119, F120⟩ := hp
        clear gt117
        show Tn _ _ 209 T101 σ115 [(0, .ref a), (1, .int (iI p1)), (2, .int (iI (v58 - 1))), (3, .int (iI i378))] [] _
        refine tn_iconst dX4_meltAt_209 ?_
        exact tn_zret (v := 1) rfl (by decide) dX4_meltAt_210 ⟨_, rfl, w119, (((((((((((((FrC.rfl.trans (FrC.sub F19 (by decide))).put (by decide) (by decide)).put (by decide) (by decide)).put (by decide) (by decide)).put (by decide) (by decide)).put (by decide) (by decide)).trans (FrC.sub F83 (by decide))).trans (FrC.sub F91 (by decide))).trans (FrC.sub F98 (by decide))).trans (FrC.sub F106 (by decide))).put (by decide) (by decide)).trans (FrC.sub (FrC.old F113 gt102) (by decide))).trans (FrC.sub (FrC.old F120 gt102) (by decide))), by omega⟩
      · refine tn_iconst dX4_meltAt_120 ?_
        exact tn_zret (v := 0) rfl (by decide) dX4_meltAt_121 ⟨_, rfl, ((((w18.put (by decide) (by decide) (fo_27 (by omega))).put (by decide) (by decide) (fo_28 (by omega))).put (by decide) (by decide) (fo_29 (by omega))).put (by decide) (by decide) (fo_30 (by omega))), (((((FrC.rfl.trans (FrC.sub F19 (by decide))).put (by decide) (by decide)).put (by decide) (by decide)).put (by decide) (by decide)).put (by decide) (by decide)), by omega⟩
end
section
theorem cd_X4_melt : Cond.code yX4_melt cX4_melt 8 (some .int) ∈ pWW := pw5 (List.mem_of_getElem? (i := 134) rfl) rfl
abbrev m_X4_melt : MT := (yX4_melt, cX4_melt, 8, (some .int))
theorem ok_X4_melt : pOk m_X4_melt := ⟨⟨cd_X4_melt, ini_4⟩, by decide +kernel, ⟨by decide +kernel, by decide +kernel⟩, Nat.le_of_ble_eq_true rfl⟩
theorem np_X4_melt : (parseMethodDescriptor yX4_melt.desc).map (fun d => d.parameters.length) = some 4 := by decide +kernel
theorem im_X4_melt : Cond.instanceMethod yX4_melt ∈ pWW := pw5 (List.mem_of_getElem? (i := 132) rfl) rfl
theorem se_X4_melt : Cond.selects RX4 yX4_melt yX4_melt ∈ pWW := pw5 (List.mem_of_getElem? (i := 133) rfl) rfl
theorem ml4_36 : Cond.methodLink RX4 36 yX4_isSmall ∈ pWW := pw5 (List.mem_of_getElem? (i := 136) rfl) rfl
theorem ml4_40 : Cond.methodLink RX4 40 yX4_meltAt ∈ pWW := pw5 (List.mem_of_getElem? (i := 141) rfl) rfl
theorem dX4_melt_0 : decode cX4_melt 0 = .ok (.aload_n 0, 1) := by decide +kernel
theorem dX4_melt_1 : decode cX4_melt 1 = .ok (.aload 4, 2) := by decide +kernel
theorem dX4_melt_3 : decode cX4_melt 3 = .ok (.putfield 19, 3) := by decide +kernel
theorem dX4_melt_6 : decode cX4_melt 6 = .ok (.iconst 0, 1) := by decide +kernel
theorem dX4_melt_7 : decode cX4_melt 7 = .ok (.istore 5, 2) := by decide +kernel
theorem dX4_melt_9 : decode cX4_melt 9 = .ok (.iconst 0, 1) := by decide +kernel
theorem dX4_melt_10 : decode cX4_melt 10 = .ok (.istore 6, 2) := by decide +kernel
theorem dX4_melt_12 : decode cX4_melt 12 = .ok (.iload 6, 2) := by decide +kernel
theorem dX4_melt_14 : decode cX4_melt 14 = .ok (.aload_n 0, 1) := by decide +kernel
theorem dX4_melt_15 : decode cX4_melt 15 = .ok (.getfield 19, 3) := by decide +kernel
theorem dX4_melt_18 : decode cX4_melt 18 = .ok (.getfield 23, 3) := by decide +kernel
theorem dX4_melt_21 : decode cX4_melt 21 = .ok (.if_icmp .ge 98, 3) := by decide +kernel
theorem dX4_melt_24 : decode cX4_melt 24 = .ok (.aload_n 0, 1) := by decide +kernel
theorem dX4_melt_25 : decode cX4_melt 25 = .ok (.getfield 19, 3) := by decide +kernel
theorem dX4_melt_28 : decode cX4_melt 28 = .ok (.iload 6, 2) := by decide +kernel
theorem dX4_melt_30 : decode cX4_melt 30 = .ok (.iconst 0, 1) := by decide +kernel
theorem dX4_melt_31 : decode cX4_melt 31 = .ok (.invokevirtual 29, 3) := by decide +kernel
theorem dX4_melt_34 : decode cX4_melt 34 = .ok (.bipush 10, 2) := by decide +kernel
theorem dX4_melt_36 : decode cX4_melt 36 = .ok (.if_icmp .ne 16, 3) := by decide +kernel
theorem dX4_melt_52 : decode cX4_melt 52 = .ok (.iconst (-1), 1) := by decide +kernel
theorem dX4_melt_53 : decode cX4_melt 53 = .ok (.istore 7, 2) := by decide +kernel
theorem dX4_melt_55 : decode cX4_melt 55 = .ok (.iload 7, 2) := by decide +kernel
theorem dX4_melt_57 : decode cX4_melt 57 = .ok (.ifCond .lt 56, 3) := by decide +kernel
theorem dX4_melt_113 : decode cX4_melt 113 = .ok (.iinc 6 1, 3) := by decide +kernel
theorem dX4_melt_116 : decode cX4_melt 116 = .ok (.goto (-104), 3) := by decide +kernel
theorem dX4_melt_39 : decode cX4_melt 39 = .ok (.aload_n 0, 1) := by decide +kernel
theorem dX4_melt_40 : decode cX4_melt 40 = .ok (.getfield 19, 3) := by decide +kernel
theorem dX4_melt_43 : decode cX4_melt 43 = .ok (.iload 6, 2) := by decide +kernel
theorem dX4_melt_45 : decode cX4_melt 45 = .ok (.iconst 2, 1) := by decide +kernel
theorem dX4_melt_46 : decode cX4_melt 46 = .ok (.invokevirtual 29, 3) := by decide +kernel
theorem dX4_melt_49 : decode cX4_melt 49 = .ok (.goto 4, 3) := by decide +kernel
theorem dX4_melt_60 : decode cX4_melt 60 = .ok (.iload 7, 2) := by decide +kernel
theorem dX4_melt_62 : decode cX4_melt 62 = .ok (.iload_n 2, 1) := by decide +kernel
theorem dX4_melt_63 : decode cX4_melt 63 = .ok (.if_icmp .ge 50, 3) := by decide +kernel
theorem dX4_melt_66 : decode cX4_melt 66 = .ok (.iload 7, 2) := by decide +kernel
theorem dX4_melt_68 : decode cX4_melt 68 = .ok (.aload_n 1, 1) := by decide +kernel
theorem dX4_melt_69 : decode cX4_melt 69 = .ok (.arraylength, 1) := by decide +kernel
theorem dX4_melt_70 : decode cX4_melt 70 = .ok (.if_icmp .ge 43, 3) := by decide +kernel
theorem dX4_melt_73 : decode cX4_melt 73 = .ok (.iload 7, 2) := by decide +kernel
theorem dX4_melt_75 : decode cX4_melt 75 = .ok (.iload_n 3, 1) := by decide +kernel
theorem dX4_melt_76 : decode cX4_melt 76 = .ok (.if_icmp .eq 37, 3) := by decide +kernel
theorem dX4_melt_79 : decode cX4_melt 79 = .ok (.aload_n 1, 1) := by decide +kernel
theorem dX4_melt_80 : decode cX4_melt 80 = .ok (.iload 7, 2) := by decide +kernel
theorem dX4_melt_82 : decode cX4_melt 82 = .ok (.aaload, 1) := by decide +kernel
theorem dX4_melt_83 : decode cX4_melt 83 = .ok (.ifnull 30, 3) := by decide +kernel
theorem dX4_melt_86 : decode cX4_melt 86 = .ok (.aload_n 0, 1) := by decide +kernel
theorem dX4_melt_87 : decode cX4_melt 87 = .ok (.aload_n 1, 1) := by decide +kernel
theorem dX4_melt_88 : decode cX4_melt 88 = .ok (.iload 7, 2) := by decide +kernel
theorem dX4_melt_90 : decode cX4_melt 90 = .ok (.aaload, 1) := by decide +kernel
theorem dX4_melt_91 : decode cX4_melt 91 = .ok (.putfield 33, 3) := by decide +kernel
theorem dX4_melt_94 : decode cX4_melt 94 = .ok (.aload_n 0, 1) := by decide +kernel
theorem dX4_melt_95 : decode cX4_melt 95 = .ok (.invokevirtual 36, 3) := by decide +kernel
theorem dX4_melt_98 : decode cX4_melt 98 = .ok (.ifCond .eq 15, 3) := by decide +kernel
theorem dX4_melt_101 : decode cX4_melt 101 = .ok (.aload_n 0, 1) := by decide +kernel
theorem dX4_melt_102 : decode cX4_melt 102 = .ok (.iload 6, 2) := by decide +kernel
theorem dX4_melt_104 : decode cX4_melt 104 = .ok (.invokevirtual 40, 3) := by decide +kernel
theorem dX4_melt_107 : decode cX4_melt 107 = .ok (.ifCond .eq 6, 3) := by decide +kernel
theorem dX4_melt_110 : decode cX4_melt 110 = .ok (.iinc 5 1, 3) := by decide +kernel
set_option maxRecDepth 20000 in
theorem l_X4_melt_12 (d : Nat) {T0 : CT} {σ0 : MS} {a : Nat} {rx1 : Nat} {c2 : Int} {c3 : Int} {post : Option Value → CT → MS → Prop} (r_c2 : -2147483648 ≤ c2 ∧ c2 ≤ 2147483647) (r_c3 : -2147483648 ≤ c3 ∧ c3 ≤ 2147483647) (hw0 : WT T0 σ0) (hh : 0 ≤ σ0.2.1 25 a) (hx_119 : ∀ (T : CT) (i5 : Int) (i6 : Int) (σ : MS) , (GT T0 T) → (WT T σ) → (FrC T0 [5, 6, 10, 26, 27, 28, 29, 30, 31, 32] σ0 σ) → (OB T a 4) → ((T rx1).1 = 4 ∨ (T rx1).1 = 5) → ((T rx1).2 ≤ 1000000) → ((T rx1).1 = 5) → (-2147483648 ≤ i5 ∧ i5 ≤ 2147483647) → (0 ≤ i6 ∧ i6 ≤ 2147483647) → Tn (d + 6) m_X4_melt 119 T σ [(0, .ref a), (1, .ref rx1), (2, .int (iI c2)), (3, .int (iI c3)), (5, .int (iI i5)), (6, .int (iI i6))] [] post) : ∀ (n : Nat) (T : CT) (i5 : Int) (i6 : Int) (σ : MS) , (GT T0 T) → (WT T σ) → (FrC T0 [5, 6, 10, 26, 27, 28, 29, 30, 31, 32] σ0 σ) → (OB T a 4) → ((T rx1).1 = 4 ∨ (T rx1).1 = 5) → ((T rx1).2 ≤ 1000000) → ((T rx1).1 = 5) → (-2147483648 ≤ i5 ∧ i5 ≤ 2147483647) → (0 ≤ i6 ∧ i6 ≤ 2147483647) → (2147483700 - i6).toNat = n → Tn (d + 6) m_X4_melt 12 T σ [(0, .ref a), (1, .ref rx1), (2, .int (iI c2)), (3, .int (iI c3)), (5, .int (iI i5)), (6, .int (iI i6))] [] post := by
  intro n
  induction n using Nat.strongRecOn with
  | _ n ih =>
    intro T i5 i6 σ hG hw hF h_a h_rx1 l_rx1 t_rx1 r_i5 r_i6 hm
    refine tn_iload dX4_melt_12 5 rfl ?_
    refine tn_aload_n dX4_melt_14 rfl 0 rfl ?_
    have nn8 : 0 ≤ σ.2.1 25 a := (by rw [show σ.2.1 25 a = σ0.2.1 25 a from rc_F hF (Or.inl (by decide)) (by decide) (rfl)]; omega)
    obtain ⟨x5, hx6, hk7⟩ := (wf_25 hw h_a).resolve_left (by omega)
    have hk7o : OB T x5 1 := ⟨by omega, by rw [hk7]; rfl, by omega⟩
    refine tn_getR (ci := 4) (i := 2) (n := 25) (x := x5) dX4_melt_15 rfl lay_4 (by decide) fl4_19 h_a rfl rfl (hx6) ?_
    refine tn_getI (ci := 1) (i := 1) (n := 6) (t := σ.2.1 6 x5) dX4_melt_18 rfl lay_1 (by decide) fl4_23 hk7o rfl rfl (rfl) ?_
    have g9 : ((0 : Int) ≤ σ.2.1 6 x5 ∧ σ.2.1 6 x5 ≤ 5000) ∧ ((T x5).1 = 50 → σ.2.1 6 x5 ≤ 200) := wf_6 hw hk7o
    have g9x := g9.2
    replace g9 := g9.1
    have g9x := g9x hk7
    refine tn_icmp_ge (tgt := 119) dX4_melt_21 (by decide) ⟨by omega, by omega⟩ ⟨by omega, by omega⟩ (fun h10 => ?_) (fun h10 => ?_)
    · exact tn_sub [0, 1, 2, 3, 4, 5] rfl (hx_119 T (i5) (i6) σ hG hw (FrC.rfl.trans (FrC.sub hF (by decide))) h_a h_rx1 (by omega) t_rx1 (by omega) (by omega))
    · refine tn_aload_n dX4_melt_24 rfl 0 rfl ?_
      refine tn_getR (ci := 4) (i := 2) (n := 25) (x := x5) dX4_melt_25 rfl lay_4 (by decide) fl4_19 h_a rfl rfl (hx6) ?_
      refine tn_iload dX4_melt_28 5 rfl ?_
      refine tn_iconst dX4_melt_30 ?_
      refine tn_callV (M := m_X4_melt) (pc := 31) (ix := 29) (ci := 1) (M' := m_X1_get) (As := [.int (iI i6), .int (iI 0)]) (rest := []) dX4_melt_31 ok_X1_get im_X1_get se_X1_get ml4_29 np_X1_get rfl rfl hk7o rfl (Nat.le_of_ble_eq_true rfl) (Nat.le_of_ble_eq_true rfl) rfl (k_X1_get (d + 4) (T := T) (σ := σ) (a := x5) (k := i6) (c := 0) hk7o (by omega) (by decide) hw (by omega)) (fun r11 T13 σ12 gt14 hp => ?_)
      obtain ⟨v16, rfl, rfl, rfl, f15⟩ := hp
      clear gt14
      show Tn _ _ 34 T σ [(0, .ref a), (1, .ref rx1), (2, .int (iI c2)), (3, .int (iI c3)), (5, .int (iI i5)), (6, .int (iI i6))] [.int (iI v16)] _
      refine tn_bipush dX4_melt_34 (by decide) ?_
      refine tn_icmp_ne (tgt := 52) dX4_melt_36 (by decide) ⟨by omega, by omega⟩ ⟨by decide, by decide⟩ (fun h17 => ?_) (fun h17 => ?_)
      · refine tn_iconst dX4_melt_52 ?_
        refine tn_istore (L' := [(7, .int (iI (-1))), (0, .ref a), (1, .ref rx1), (2, .int (iI c2)), (3, .int (iI c3)), (5, .int (iI i5)), (6, .int (iI i6))]) dX4_melt_53 (by decide) rfl ?_
        refine tn_iload dX4_melt_55 0 rfl ?_
        refine tn_if_lt (tgt := 113) dX4_melt_57 (by decide) ⟨by decide, by decide⟩ (fun _ => ?_) (fun h => absurd h (by decide))
        refine tn_iinc (q0 := 6) (L' := [(6, .int (iI (i6 + 1))), (7, .int (iI (-1))), (0, .ref a), (1, .ref rx1), (2, .int (iI c2)), (3, .int (iI c3)), (5, .int (iI i5))]) dX4_melt_113 rfl (by decide) rfl ?_
        refine tn_goto (tgt := 12) dX4_melt_116 (by decide) ?_
        exact tn_sub [2, 3, 4, 5, 6, 0] rfl (ih _ (by omega) T (i5) (i6 + 1) σ hG hw (FrC.rfl.trans (FrC.sub hF (by decide))) h_a h_rx1 (by omega) t_rx1 (by omega) (by omega) rfl)
      · refine tn_aload_n dX4_melt_39 rfl 0 rfl ?_
        refine tn_getR (ci := 4) (i := 2) (n := 25) (x := x5) dX4_melt_40 rfl lay_4 (by decide) fl4_19 h_a rfl rfl (hx6) ?_
        refine tn_iload dX4_melt_43 5 rfl ?_
        refine tn_iconst dX4_melt_45 ?_
        refine tn_callV (M := m_X4_melt) (pc := 46) (ix := 29) (ci := 1) (M' := m_X1_get) (As := [.int (iI i6), .int (iI 2)]) (rest := []) dX4_melt_46 ok_X1_get im_X1_get se_X1_get ml4_29 np_X1_get rfl rfl hk7o rfl (Nat.le_of_ble_eq_true rfl) (Nat.le_of_ble_eq_true rfl) rfl (k_X1_get (d + 4) (T := T) (σ := σ) (a := x5) (k := i6) (c := 2) hk7o (by omega) (by decide) hw (by omega)) (fun r19 T21 σ20 gt22 hp => ?_)
        obtain ⟨v24, rfl, rfl, rfl, f23⟩ := hp
        clear gt22
        show Tn _ _ 49 T σ [(0, .ref a), (1, .ref rx1), (2, .int (iI c2)), (3, .int (iI c3)), (5, .int (iI i5)), (6, .int (iI i6))] [.int (iI v24)] _
        refine tn_goto (tgt := 53) dX4_melt_49 (by decide) ?_
        refine tn_istore (L' := [(7, .int (iI v24)), (0, .ref a), (1, .ref rx1), (2, .int (iI c2)), (3, .int (iI c3)), (5, .int (iI i5)), (6, .int (iI i6))]) dX4_melt_53 (by decide) rfl ?_
        refine tn_iload dX4_melt_55 0 rfl ?_
        refine tn_if_lt (tgt := 113) dX4_melt_57 (by decide) ⟨by omega, by omega⟩ (fun h25 => ?_) (fun h25 => ?_)
        · refine tn_iinc (q0 := 6) (L' := [(6, .int (iI (i6 + 1))), (7, .int (iI v24)), (0, .ref a), (1, .ref rx1), (2, .int (iI c2)), (3, .int (iI c3)), (5, .int (iI i5))]) dX4_melt_113 rfl (by decide) rfl ?_
          refine tn_goto (tgt := 12) dX4_melt_116 (by decide) ?_
          exact tn_sub [2, 3, 4, 5, 6, 0] rfl (ih _ (by omega) T (i5) (i6 + 1) σ hG hw (FrC.rfl.trans (FrC.sub hF (by decide))) h_a h_rx1 (by omega) t_rx1 (by omega) (by omega) rfl)
        · refine tn_iload dX4_melt_60 0 rfl ?_
          refine tn_iload_n dX4_melt_62 rfl 3 rfl ?_
          refine tn_icmp_ge (tgt := 113) dX4_melt_63 (by decide) ⟨by omega, by omega⟩ ⟨by omega, by omega⟩ (fun h26 => ?_) (fun h26 => ?_)
          · refine tn_iinc (q0 := 6) (L' := [(6, .int (iI (i6 + 1))), (7, .int (iI v24)), (0, .ref a), (1, .ref rx1), (2, .int (iI c2)), (3, .int (iI c3)), (5, .int (iI i5))]) dX4_melt_113 rfl (by decide) rfl ?_
            refine tn_goto (tgt := 12) dX4_melt_116 (by decide) ?_
            exact tn_sub [2, 3, 4, 5, 6, 0] rfl (ih _ (by omega) T (i5) (i6 + 1) σ hG hw (FrC.rfl.trans (FrC.sub hF (by decide))) h_a h_rx1 (by omega) t_rx1 (by omega) (by omega) rfl)
          · refine tn_iload dX4_melt_66 0 rfl ?_
            refine tn_aload_n dX4_melt_68 rfl 2 rfl ?_
            refine tn_alenX dX4_melt_69 (by have q9 := h_rx1; omega) ?_
            refine tn_icmp_ge (tgt := 113) dX4_melt_70 (by decide) ⟨by omega, by omega⟩ ⟨by omega, by omega⟩ (fun h27 => ?_) (fun h27 => ?_)
            · refine tn_iinc (q0 := 6) (L' := [(6, .int (iI (i6 + 1))), (7, .int (iI v24)), (0, .ref a), (1, .ref rx1), (2, .int (iI c2)), (3, .int (iI c3)), (5, .int (iI i5))]) dX4_melt_113 rfl (by decide) rfl ?_
              refine tn_goto (tgt := 12) dX4_melt_116 (by decide) ?_
              exact tn_sub [2, 3, 4, 5, 6, 0] rfl (ih _ (by omega) T (i5) (i6 + 1) σ hG hw (FrC.rfl.trans (FrC.sub hF (by decide))) h_a h_rx1 (by omega) t_rx1 (by omega) (by omega) rfl)
            · refine tn_iload dX4_melt_73 0 rfl ?_
              refine tn_iload_n dX4_melt_75 rfl 4 rfl ?_
              refine tn_icmp_eq (tgt := 113) dX4_melt_76 (by decide) ⟨by omega, by omega⟩ ⟨by omega, by omega⟩ (fun h28 => ?_) (fun h28 => ?_)
              · refine tn_iinc (q0 := 6) (L' := [(6, .int (iI (i6 + 1))), (7, .int (iI v24)), (0, .ref a), (1, .ref rx1), (2, .int (iI c2)), (3, .int (iI c3)), (5, .int (iI i5))]) dX4_melt_113 rfl (by decide) rfl ?_
                refine tn_goto (tgt := 12) dX4_melt_116 (by decide) ?_
                exact tn_sub [2, 3, 4, 5, 6, 0] rfl (ih _ (by omega) T (i5) (i6 + 1) σ hG hw (FrC.rfl.trans (FrC.sub hF (by decide))) h_a h_rx1 (by omega) t_rx1 (by omega) (by omega) rfl)
              · refine tn_aload_n dX4_melt_79 rfl 2 rfl ?_
                refine tn_iload dX4_melt_80 0 rfl ?_
                obtain ⟨x29, hx30, hk31⟩ := (hw).2.2.2.1.2 rx1 t_rx1 (v24) (by omega) (by omega)
                refine tn_aald (z := v24) (x := x29) dX4_melt_82 h_rx1 (by omega) (by omega) (by omega) hx30 ?_
                have hk31o : OB T x29 1 := ⟨by omega, by rw [hk31]; rfl, by omega⟩
                refine tn_ifnull dX4_melt_83 ?_
                refine tn_aload_n dX4_melt_86 rfl 1 rfl ?_
                refine tn_aload_n dX4_melt_87 rfl 2 rfl ?_
                refine tn_iload dX4_melt_88 0 rfl ?_
                obtain ⟨x32, hx33, hk34⟩ := (hw).2.2.2.1.2 rx1 t_rx1 (v24) (by omega) (by omega)
                refine tn_aald (z := v24) (x := x32) dX4_melt_90 h_rx1 (by omega) (by omega) (by omega) hx33 ?_
                have hk34o : OB T x32 1 := ⟨by omega, by rw [hk34]; rfl, by omega⟩
                refine tn_putV (ci := 4) (i := 3) (n := 26) (r := true) (v := (x32 : Int)) tyX4 tyX4_ok nmX4 dX4_melt_91 rfl lay_4 (by decide) fl4_33 rfl (tyX4_ok 3 (by decide)) (vl_ref rfl).symm rfl rfl h_a rfl rfl ?_
                refine tn_aload_n dX4_melt_94 rfl 1 rfl ?_
                refine tn_callV (M := m_X4_melt) (pc := 95) (ix := 36) (ci := 4) (M' := m_X4_isSmall) (As := []) (rest := []) dX4_melt_95 ok_X4_isSmall im_X4_isSmall se_X4_isSmall ml4_36 np_X4_isSmall rfl rfl h_a rfl (Nat.le_of_ble_eq_true rfl) (Nat.le_of_ble_eq_true rfl) rfl (k_X4_isSmall (d + 2) (T := T) (σ := (sA 26 a ((x32 : Int)) σ)) (a := a) h_a (hw.put (by decide) (by decide) (fo_26 (Or.inr ⟨_, rfl, hk34⟩))) (by rw [show (sA 26 a ((x32 : Int)) σ).2.1 26 a = (x32 : Int) from ra_eq]; omega)) (fun r35 T37 σ36 gt38 hp => ?_)
                obtain ⟨v40, rfl, rfl, rfl, f39⟩ := hp
                clear gt38
                show Tn _ _ 98 T (sA 26 a ((x32 : Int)) σ) [(7, .int (iI v24)), (0, .ref a), (1, .ref rx1), (2, .int (iI c2)), (3, .int (iI c3)), (5, .int (iI i5)), (6, .int (iI i6))] [.int (iI v40)] _
                refine tn_if_eq (tgt := 113) dX4_melt_98 (by decide) ⟨by omega, by omega⟩ (fun h41 => ?_) (fun h41 => ?_)
                · refine tn_iinc (q0 := 6) (L' := [(6, .int (iI (i6 + 1))), (7, .int (iI v24)), (0, .ref a), (1, .ref rx1), (2, .int (iI c2)), (3, .int (iI c3)), (5, .int (iI i5))]) dX4_melt_113 rfl (by decide) rfl ?_
                  refine tn_goto (tgt := 12) dX4_melt_116 (by decide) ?_
                  exact tn_sub [2, 3, 4, 5, 6, 0] rfl (ih _ (by omega) T (i5) (i6 + 1) (sA 26 a ((x32 : Int)) σ) hG (hw.put (by decide) (by decide) (fo_26 (Or.inr ⟨_, rfl, hk34⟩))) ((FrC.rfl.trans (FrC.sub hF (by decide))).put (by decide) (by decide)) h_a h_rx1 (by omega) t_rx1 (by omega) (by omega) rfl)
                · refine tn_aload_n dX4_melt_101 rfl 1 rfl ?_
                  refine tn_iload dX4_melt_102 6 rfl ?_
                  refine tn_callV (M := m_X4_melt) (pc := 104) (ix := 40) (ci := 4) (M' := m_X4_meltAt) (As := [.int (iI i6)]) (rest := []) dX4_melt_104 ok_X4_meltAt im_X4_meltAt se_X4_meltAt ml4_40 np_X4_meltAt rfl rfl h_a rfl (Nat.le_of_ble_eq_true rfl) (Nat.le_of_ble_eq_true rfl) rfl (k_X4_meltAt (d) (T := T) (σ := (sA 26 a ((x32 : Int)) σ)) (a := a) (p1 := i6) h_a (by omega) (hw.put (by decide) (by decide) (fo_26 (Or.inr ⟨_, rfl, hk34⟩))) (by rw [show (sA 26 a ((x32 : Int)) σ).2.1 25 a = σ0.2.1 25 a from rc_o (by decide) (rc_F hF (Or.inl (by decide)) (by decide) (rfl))]; omega) (by rw [show (sA 26 a ((x32 : Int)) σ).2.1 26 a = (x32 : Int) from ra_eq]; omega)) (fun r42 T44 σ43 gt45 hp => ?_)
                  obtain ⟨v47, rfl, w48, F49, f46⟩ := hp
                  rw [← gt45.lenQ h_rx1] at l_rx1
                  replace h_a : OB T44 a 4 := gt45.ob h_a
                  replace t_rx1 : (T44 rx1).1 = 5 := gt45.kk t_rx1 (by decide) (by decide)
                  replace h_rx1 : (T44 rx1).1 = 4 ∨ (T44 rx1).1 = 5 := by rw [gt45 rx1 (by omega) (by omega)]; exact h_rx1
                  show Tn _ _ 107 T44 σ43 [(7, .int (iI v24)), (0, .ref a), (1, .ref rx1), (2, .int (iI c2)), (3, .int (iI c3)), (5, .int (iI i5)), (6, .int (iI i6))] [.int (iI v47)] _
                  refine tn_if_eq (tgt := 113) dX4_melt_107 (by decide) ⟨by omega, by omega⟩ (fun h50 => ?_) (fun h50 => ?_)
                  · refine tn_iinc (q0 := 6) (L' := [(6, .int (iI (i6 + 1))), (7, .int (iI v24)), (0, .ref a), (1, .ref rx1), (2, .int (iI c2)), (3, .int (iI c3)), (5, .int (iI i5))]) dX4_melt_113 rfl (by decide) rfl ?_
                    refine tn_goto (tgt := 12) dX4_melt_116 (by decide) ?_
                    exact tn_sub [2, 3, 4, 5, 6, 0] rfl (ih _ (by omega) T44 (i5) (i6 + 1) σ43 (GT.trans hG gt45) w48 (((FrC.rfl.trans (FrC.sub hF (by decide))).put (by decide) (by decide)).trans (FrC.sub (FrC.old F49 hG) (by decide))) h_a h_rx1 (by omega) t_rx1 (by omega) (by omega) rfl)
                  · refine tn_iinc (q0 := 5) (L' := [(5, .int (iI (i5 + 1))), (7, .int (iI v24)), (0, .ref a), (1, .ref rx1), (2, .int (iI c2)), (3, .int (iI c3)), (6, .int (iI i6))]) dX4_melt_110 rfl (by decide) rfl ?_
                    obtain ⟨z51, g52, g52e⟩ := wr_ex (i5 + 1)
                    rw [g52e]
                    have g52r : -2147483648 ≤ z51 ∧ z51 ≤ 2147483647 := g52
                    refine tn_iinc (q0 := 6) (L' := [(6, .int (iI (i6 + 1))), (5, .int (iI z51)), (7, .int (iI v24)), (0, .ref a), (1, .ref rx1), (2, .int (iI c2)), (3, .int (iI c3))]) dX4_melt_113 rfl (by decide) rfl ?_
                    refine tn_goto (tgt := 12) dX4_melt_116 (by decide) ?_
                    exact tn_sub [3, 4, 5, 6, 1, 0] rfl (ih _ (by omega) T44 (z51) (i6 + 1) σ43 (GT.trans hG gt45) w48 (((FrC.rfl.trans (FrC.sub hF (by decide))).put (by decide) (by decide)).trans (FrC.sub (FrC.old F49 hG) (by decide))) h_a h_rx1 (by omega) t_rx1 (by omega) (by omega) rfl)
theorem dX4_melt_119 : decode cX4_melt 119 = .ok (.iload 5, 2) := by decide +kernel
theorem dX4_melt_121 : decode cX4_melt 121 = .ok (.ireturn, 1) := by decide +kernel
set_option maxRecDepth 20000 in
theorem k_X4_melt (d : Nat) {T : CT} {σ : MS} {a : Nat} {cs : Nat} {n : Int} {r : Int} {c : Nat} (ha : OB T a 4) (h_cs : (T cs).1 = 4 ∨ (T cs).1 = 5) (l_cs : (T cs).2 ≤ 1000000) (t_cs : (T cs).1 = 5) (h_n : -2147483648 ≤ n ∧ n ≤ 2147483647) (h_r : -2147483648 ≤ r ∧ r ≤ 2147483647) (h_c : OB T c 1) (t_c : (T c).1 = 50) (hw : WT T σ) : Tn (d + 6) m_X4_melt 0 T σ [(0, .ref a), (1, .ref cs), (2, .int (iI n)), (3, .int (iI r)), (4, .ref c)] [] (fun ro T2 σ2 => ∃ v : Int, ro = some (.int (iI v)) ∧ WT T2 σ2 ∧ FrC T [5, 6, 10, 25, 26, 27, 28, 29, 30, 31, 32] σ σ2 ∧ (-2147483648 ≤ v ∧ v ≤ 2147483647)) := by
  refine tn_aload_n dX4_melt_0 rfl 0 rfl ?_
  refine tn_aload dX4_melt_1 4 rfl ?_
  refine tn_putV (ci := 4) (i := 2) (n := 25) (r := true) (v := (c : Int)) tyX4 tyX4_ok nmX4 dX4_melt_3 rfl lay_4 (by decide) fl4_19 rfl (tyX4_ok 2 (by decide)) (vl_ref rfl).symm rfl rfl ha rfl rfl ?_
  refine tn_iconst dX4_melt_6 ?_
  refine tn_istore (L' := [(5, .int (iI 0)), (0, .ref a), (1, .ref cs), (2, .int (iI n)), (3, .int (iI r)), (4, .ref c)]) dX4_melt_7 (by decide) rfl ?_
  refine tn_iconst dX4_melt_9 ?_
  refine tn_istore (L' := [(6, .int (iI 0)), (5, .int (iI 0)), (0, .ref a), (1, .ref cs), (2, .int (iI n)), (3, .int (iI r)), (4, .ref c)]) dX4_melt_10 (by decide) rfl ?_
  refine tn_sub [2, 3, 4, 5, 1, 0] rfl (l_X4_melt_12 (d) (σ0 := (sA 25 a ((c : Int)) σ)) (T0 := T) (a := a) (rx1 := cs) (c2 := n) (c3 := r) (by omega) (by omega) (hw.put (by decide) (by decide) (fo_25 (Or.inr ⟨_, rfl, t_c⟩))) (by rw [show (sA 25 a ((c : Int)) σ).2.1 25 a = (c : Int) from ra_eq]; omega) (fun T4 i51 i62 σ3 gt5 w6 F7 q8 q9 q10 q11 r12 r13 => ?_) _ T (0) (0) (sA 25 a ((c : Int)) σ) GT.rfl (hw.put (by decide) (by decide) (fo_25 (Or.inr ⟨_, rfl, t_c⟩))) FrC.rfl ha h_cs (by omega) t_cs (by omega) (by omega) rfl)
  show Tn _ _ 119 T4 σ3 [(0, .ref a), (1, .ref cs), (2, .int (iI n)), (3, .int (iI r)), (5, .int (iI i51)), (6, .int (iI i62))] [] _
  refine tn_iload dX4_melt_119 4 rfl ?_
  exact tn_iret rfl dX4_melt_121 ⟨_, rfl, w6, ((FrC.rfl.put (by decide) (by decide)).trans (FrC.sub F7 (by decide))), by omega⟩
end
section
/-- the reader: what was made is paid by tokens -/
def RP (σ : MS) (a : Nat) (k : Int) : Prop := ∀ t c : Nat, σ.2.1 33 a = (t : Int) → σ.2.1 35 a = (c : Int) → TKI σ t ∧ σ.2.1 6 c ≤ 4 * σ.2.1 84 t + k
section RPS
variable {T : CT} {σ τ : MS} {a t c n x : Nat} {k j z v : Int} {ks : List Nat}
theorem RP.up (h : RP σ a k) (hj : k ≤ j) : RP σ a j := fun t c q r => ⟨(h t c q r).1, by have := (h t c q r).2; omega⟩
theorem RP.frc (h : RP σ a k) (f : FrC T ks σ τ) (h1 : 33 ∉ ks) (h2 : 35 ∉ ks) (h3 : 6 ∉ ks) (h4 : 84 ∉ ks) (h5 : 85 ∉ ks) : RP τ a k := fun t c q r => by
  rw [f.1 33 (by omega) h1] at q
  rw [f.1 35 (by omega) h2] at r
  obtain ⟨w1, w2⟩ := h t c q r
  unfold TKI at *
  rw [f.1 84 (by omega) h4, f.1 85 (by omega) h5, f.1 6 (by omega) h3]
  exact ⟨w1, w2⟩
theorem RP.put (h : RP σ a k) (hn : n ≠ 33 ∧ n ≠ 35 ∧ n ≠ 6 ∧ n ≠ 84 ∧ n ≠ 85) : RP (sA n z v σ) a k := fun t c q r => by
  rw [sA_k (by omega)] at q
  rw [sA_k (by omega)] at r
  obtain ⟨w1, w2⟩ := h t c q r
  unfold TKI at *
  rw [sA_k (by omega), sA_k (by omega), sA_k (by omega)]
  exact ⟨w1, w2⟩
theorem RP.row {f : Int → Int} (h : RP σ a k) : RP (rowS (1000 + x) f σ) a k := fun t c q r => by
  rw [rowS_ne (by omega)] at q
  rw [rowS_ne (by omega)] at r
  obtain ⟨w1, w2⟩ := h t c q r
  unfold TKI at *
  rw [rowS_ne (by omega), rowS_ne (by omega), rowS_ne (by omega)]
  exact ⟨w1, w2⟩
theorem RP.arr (h : RP σ a k) : RP (sA (1000 + x) z v σ) a k := by rw [sA_row]; exact h.row
theorem RP.next (h : RP σ a k) (ht : σ.2.1 33 a = (t : Int)) (f : FrC T ks σ τ) (h1 : 33 ∉ ks) (h2 : 35 ∉ ks) (h3 : 6 ∉ ks) (hT : TKI τ t) (hle : σ.2.1 84 t ≤ τ.2.1 84 t) : RP τ a k := fun t2 c q r => by
  rw [f.1 33 (by omega) h1] at q
  rw [f.1 35 (by omega) h2] at r
  have e : t2 = t := by omega
  subst e
  obtain ⟨w1, w2⟩ := h t2 c q r
  rw [f.1 6 (by omega) h3]
  exact ⟨hT, by omega⟩
theorem RP.next4 (h : RP σ a k) (ht : σ.2.1 33 a = (t : Int)) (f : FrC T ks σ τ) (h1 : 33 ∉ ks) (h2 : 35 ∉ ks) (h3 : 6 ∉ ks) (hT : TKI τ t) (hA : ADV σ τ t) (hk : σ.2.1 85 t ≠ 0 ∧ σ.2.1 85 t ≠ 263 ∧ σ.2.1 85 t ≠ 264) : RP τ a (k - 4) := fun t2 c q r => by
  rw [f.1 33 (by omega) h1] at q
  rw [f.1 35 (by omega) h2] at r
  have e : t2 = t := by omega
  subst e
  obtain ⟨w1, w2⟩ := h t2 c q r
  have w3 := hA hk.1 hk.2.1 hk.2.2
  rw [f.1 6 (by omega) h3]
  exact ⟨hT, by omega⟩
theorem RP.app (h : RP σ a k) (hc : σ.2.1 35 a = (c : Int)) (f : FrC T ks σ τ) (h1 : 33 ∉ ks) (h2 : 35 ∉ ks) (h3 : 84 ∉ ks) (h4 : 85 ∉ ks) (h6 : τ.2.1 6 c = σ.2.1 6 c + 1) : RP τ a (k + 1) := fun t c2 q r => by
  rw [f.1 33 (by omega) h1] at q
  rw [f.1 35 (by omega) h2] at r
  have e : c2 = c := by omega
  subst e
  obtain ⟨w1, w2⟩ := h t c2 q r
  unfold TKI at *
  rw [f.1 84 (by omega) h3, f.1 85 (by omega) h4, h6]
  exact ⟨w1, by omega⟩
theorem RP.tk (h : RP σ a k) (hw : WT T σ) (ha : OB T a 5) (ht : σ.2.1 33 a = (t : Int)) : TKI σ t := by
  obtain ⟨c, hc, -⟩ := wf_35 hw ha
  exact (h t c ht hc).1
theorem RP.cnt (h : RP σ a k) (hw : WT T σ) (ha : OB T a 5) (hc : σ.2.1 35 a = (c : Int)) (hk : k ≤ 190) : σ.2.1 6 c ≤ 4999 := by
  obtain ⟨t, ht, hk2⟩ := wf_33 hw ha
  have ob : OB T t 9 := ⟨by omega, by rw [hk2]; rfl, by omega⟩
  have w := (h t c ht hc).2
  have q := wf_84 hw ob
  omega
end RPS
end
section
theorem cd_X5_exchange : Cond.code yX5_exchange cX5_exchange 4 (some (.object "LineKeeper$Code")) ∈ pWW := pw4 (List.mem_of_getElem? (i := 23) rfl) rfl
theorem ini_5 : Cond.initialized RX5 ∈ pWW := pw1 (List.mem_of_getElem? (i := 2) rfl) rfl
abbrev m_X5_exchange : MT := (yX5_exchange, cX5_exchange, 4, (some (.object "LineKeeper$Code")))
theorem ok_X5_exchange : pOk m_X5_exchange := ⟨⟨cd_X5_exchange, ini_5⟩, by decide +kernel, ⟨by decide +kernel, by decide +kernel⟩, Nat.le_of_ble_eq_true rfl⟩
theorem np_X5_exchange : (parseMethodDescriptor yX5_exchange.desc).map (fun d => d.parameters.length) = some 2 := by decide +kernel
theorem im_X5_exchange : Cond.instanceMethod yX5_exchange ∈ pWW := pw4 (List.mem_of_getElem? (i := 21) rfl) rfl
theorem se_X5_exchange : Cond.selects RX5 yX5_exchange yX5_exchange ∈ pWW := pw4 (List.mem_of_getElem? (i := 22) rfl) rfl
theorem fl5_20 : Cond.fieldLink RX5 20 (TX5 1).1 (TX5 1).2.1 (TX5 1).2.2.1 ∈ pWW := pw1 (List.mem_of_getElem? (i := 154) rfl) rfl
theorem dX5_exchange_0 : decode cX5_exchange 0 = .ok (.iload_n 1, 1) := by decide +kernel
theorem dX5_exchange_1 : decode cX5_exchange 1 = .ok (.ifCond .lt 21, 3) := by decide +kernel
theorem dX5_exchange_22 : decode cX5_exchange 22 = .ok (.aload_n 2, 1) := by decide +kernel
theorem dX5_exchange_23 : decode cX5_exchange 23 = .ok (.areturn, 1) := by decide +kernel
theorem dX5_exchange_4 : decode cX5_exchange 4 = .ok (.iload_n 1, 1) := by decide +kernel
theorem dX5_exchange_5 : decode cX5_exchange 5 = .ok (.aload_n 0, 1) := by decide +kernel
theorem dX5_exchange_6 : decode cX5_exchange 6 = .ok (.getfield 20, 3) := by decide +kernel
theorem dX5_exchange_9 : decode cX5_exchange 9 = .ok (.arraylength, 1) := by decide +kernel
theorem dX5_exchange_10 : decode cX5_exchange 10 = .ok (.if_icmp .ge 12, 3) := by decide +kernel
theorem dX5_exchange_13 : decode cX5_exchange 13 = .ok (.aload_n 0, 1) := by decide +kernel
theorem dX5_exchange_14 : decode cX5_exchange 14 = .ok (.getfield 20, 3) := by decide +kernel
theorem dX5_exchange_17 : decode cX5_exchange 17 = .ok (.iload_n 1, 1) := by decide +kernel
theorem dX5_exchange_18 : decode cX5_exchange 18 = .ok (.aaload, 1) := by decide +kernel
theorem dX5_exchange_19 : decode cX5_exchange 19 = .ok (.ifnonnull 5, 3) := by decide +kernel
theorem dX5_exchange_24 : decode cX5_exchange 24 = .ok (.aload_n 0, 1) := by decide +kernel
theorem dX5_exchange_25 : decode cX5_exchange 25 = .ok (.getfield 20, 3) := by decide +kernel
theorem dX5_exchange_28 : decode cX5_exchange 28 = .ok (.iload_n 1, 1) := by decide +kernel
theorem dX5_exchange_29 : decode cX5_exchange 29 = .ok (.aaload, 1) := by decide +kernel
theorem dX5_exchange_30 : decode cX5_exchange 30 = .ok (.astore_n 3, 1) := by decide +kernel
theorem dX5_exchange_31 : decode cX5_exchange 31 = .ok (.aload_n 0, 1) := by decide +kernel
theorem dX5_exchange_32 : decode cX5_exchange 32 = .ok (.getfield 20, 3) := by decide +kernel
theorem dX5_exchange_35 : decode cX5_exchange 35 = .ok (.iload_n 1, 1) := by decide +kernel
theorem dX5_exchange_36 : decode cX5_exchange 36 = .ok (.aload_n 2, 1) := by decide +kernel
theorem dX5_exchange_37 : decode cX5_exchange 37 = .ok (.aastore, 1) := by decide +kernel
theorem dX5_exchange_38 : decode cX5_exchange 38 = .ok (.aload_n 3, 1) := by decide +kernel
theorem dX5_exchange_39 : decode cX5_exchange 39 = .ok (.areturn, 1) := by decide +kernel
set_option maxRecDepth 20000 in
theorem k_X5_exchange (d : Nat) {T : CT} {σ : MS} {a : Nat} {p1 : Int} {p2 : Nat} (ha : OB T a 5) (h_p1 : -2147483648 ≤ p1 ∧ p1 ≤ 2147483647) (h_p2 : OB T p2 1) (t_p2 : (T p2).1 = 31) (hw : WT T σ) : Tn (d + 1) m_X5_exchange 0 T σ [(0, .ref a), (1, .int (iI p1)), (2, .ref p2)] [] (fun ro T2 σ2 => ∃ v : Int, ro = some (vl true v) ∧ T = T2 ∧ WT T2 σ2 ∧ FrC T [] σ σ2 ∧ (∃ x : Nat, v = (x : Int) ∧ (T2 x).1 = 31)) := by
  refine tn_iload_n dX5_exchange_0 rfl 1 rfl ?_
  refine tn_if_lt (tgt := 22) dX5_exchange_1 (by decide) ⟨by omega, by omega⟩ (fun h1 => ?_) (fun h1 => ?_)
  · refine tn_aload_n dX5_exchange_22 rfl 2 rfl ?_
    exact tn_aret rfl (Or.inl ⟨_, rfl⟩) (Or.inr ⟨_, rfl⟩) dX5_exchange_23 ⟨(p2 : Int), congrArg some (vl_ref rfl).symm, rfl, hw, FrC.rfl, ⟨_, rfl, t_p2⟩⟩
  · refine tn_iload_n dX5_exchange_4 rfl 1 rfl ?_
    refine tn_aload_n dX5_exchange_5 rfl 0 rfl ?_
    obtain ⟨x2, hx3, hk4, hl5⟩ : ∃ x : Nat, σ.2.1 34 a = (x : Int) ∧ AR T x 4 7 7 := wf_34 hw ha
    have hk4i : (T x2).1 = 4 ∨ (T x2).1 = 5 := by omega
    refine tn_getR (ci := 5) (i := 1) (n := 34) (x := x2) dX5_exchange_6 rfl lay_5 (by decide) fl5_20 ha rfl rfl (hx3) ?_
    refine tn_alenX dX5_exchange_9 (by have q9 := hk4i; omega) ?_
    refine tn_icmp_ge (tgt := 22) dX5_exchange_10 (by decide) ⟨by omega, by omega⟩ ⟨by omega, by omega⟩ (fun h6 => ?_) (fun h6 => ?_)
    · refine tn_aload_n dX5_exchange_22 rfl 2 rfl ?_
      exact tn_aret rfl (Or.inl ⟨_, rfl⟩) (Or.inr ⟨_, rfl⟩) dX5_exchange_23 ⟨(p2 : Int), congrArg some (vl_ref rfl).symm, rfl, hw, FrC.rfl, ⟨_, rfl, t_p2⟩⟩
    · refine tn_aload_n dX5_exchange_13 rfl 0 rfl ?_
      refine tn_getR (ci := 5) (i := 1) (n := 34) (x := x2) dX5_exchange_14 rfl lay_5 (by decide) fl5_20 ha rfl rfl (hx3) ?_
      refine tn_iload_n dX5_exchange_17 rfl 1 rfl ?_
      obtain ⟨x7, hx8, hk9⟩ := (hw).2.2.2.1.1 x2 hk4 (p1) (by omega) (by omega)
      refine tn_aald (z := p1) (x := x7) dX5_exchange_18 hk4i (by omega) (by omega) (by omega) hx8 ?_
      have hk9o : OB T x7 1 := ⟨by omega, by rw [hk9]; rfl, by omega⟩
      refine tn_ifnonnull (tgt := 24) dX5_exchange_19 (by decide) ?_
      refine tn_aload_n dX5_exchange_24 rfl 0 rfl ?_
      refine tn_getR (ci := 5) (i := 1) (n := 34) (x := x2) dX5_exchange_25 rfl lay_5 (by decide) fl5_20 ha rfl rfl (hx3) ?_
      refine tn_iload_n dX5_exchange_28 rfl 1 rfl ?_
      obtain ⟨x10, hx11, hk12⟩ := (hw).2.2.2.1.1 x2 hk4 (p1) (by omega) (by omega)
      refine tn_aald (z := p1) (x := x10) dX5_exchange_29 hk4i (by omega) (by omega) (by omega) hx11 ?_
      have hk12o : OB T x10 1 := ⟨by omega, by rw [hk12]; rfl, by omega⟩
      refine tn_astore_n (L' := [(3, .ref x10), (0, .ref a), (1, .int (iI p1)), (2, .ref p2)]) dX5_exchange_30 rfl (by decide) rfl ?_
      refine tn_aload_n dX5_exchange_31 rfl 1 rfl ?_
      refine tn_getR (ci := 5) (i := 1) (n := 34) (x := x2) dX5_exchange_32 rfl lay_5 (by decide) fl5_20 ha rfl rfl (hx3) ?_
      refine tn_iload_n dX5_exchange_35 rfl 2 rfl ?_
      refine tn_aload_n dX5_exchange_36 rfl 3 rfl ?_
      refine tn_aastQ (z := p1) (v := p2) dX5_exchange_37 (by have q9 := hk4i; omega) h_p2.r (by omega) (by omega) (by omega) ?_
      refine tn_aload_n dX5_exchange_38 rfl 0 rfl ?_
      exact tn_aret rfl (Or.inl ⟨_, rfl⟩) (Or.inr ⟨_, rfl⟩) dX5_exchange_39 ⟨(x10 : Int), congrArg some (vl_ref rfl).symm, rfl, (hw.rq (by have h1 := hk4; have h2 := t_p2; omega)), (FrC.rfl.arr (hk_no (nh_k hk4 (by unfold HT; omega)))), ⟨_, rfl, hk12⟩⟩
end
section
theorem cd_X5_refuse : Cond.code yX5_refuse cX5_refuse 1 (some .boolean) ∈ pWW := pw3 (List.mem_of_getElem? (i := 68) rfl) rfl
abbrev m_X5_refuse : MT := (yX5_refuse, cX5_refuse, 1, (some .boolean))
theorem ok_X5_refuse : pOk m_X5_refuse := ⟨⟨cd_X5_refuse, ini_5⟩, by decide +kernel, ⟨by decide +kernel, by decide +kernel⟩, Nat.le_of_ble_eq_true rfl⟩
theorem np_X5_refuse : (parseMethodDescriptor yX5_refuse.desc).map (fun d => d.parameters.length) = some 0 := by decide +kernel
theorem im_X5_refuse : Cond.instanceMethod yX5_refuse ∈ pWW := pw3 (List.mem_of_getElem? (i := 67) rfl) rfl
theorem se_X5_refuse : Cond.selects RX5 yX5_refuse yX5_refuse ∈ pWW := pws (List.mem_map.mpr ⟨_, lw_pin 5 rfl, rfl⟩) rfl
theorem fl5_51 : Cond.fieldLink RX5 51 (TX5 10).1 (TX5 10).2.1 (TX5 10).2.2.1 ∈ pWW := pw1 (List.mem_of_getElem? (i := 164) rfl) rfl
theorem fl5_12 : Cond.fieldLink RX5 12 (TX5 0).1 (TX5 0).2.1 (TX5 0).2.2.1 ∈ pWW := pw1 (List.mem_of_getElem? (i := 153) rfl) rfl
theorem fl5_74 : Cond.fieldLink RX5 74 (TX9 6).1 (TX9 6).2.1 (TX9 6).2.2.1 ∈ pWW := pw1 (List.mem_of_getElem? (i := 53) rfl) rfl
theorem fl5_55 : Cond.fieldLink RX5 55 (TX5 11).1 (TX5 11).2.1 (TX5 11).2.2.1 ∈ pWW := pw1 (List.mem_of_getElem? (i := 166) rfl) rfl
theorem dX5_refuse_0 : decode cX5_refuse 0 = .ok (.aload_n 0, 1) := by decide +kernel
theorem dX5_refuse_1 : decode cX5_refuse 1 = .ok (.iconst 1, 1) := by decide +kernel
theorem dX5_refuse_2 : decode cX5_refuse 2 = .ok (.putfield 51, 3) := by decide +kernel
theorem dX5_refuse_5 : decode cX5_refuse 5 = .ok (.aload_n 0, 1) := by decide +kernel
theorem dX5_refuse_6 : decode cX5_refuse 6 = .ok (.aload_n 0, 1) := by decide +kernel
theorem dX5_refuse_7 : decode cX5_refuse 7 = .ok (.getfield 12, 3) := by decide +kernel
theorem dX5_refuse_10 : decode cX5_refuse 10 = .ok (.getfield 74, 3) := by decide +kernel
theorem dX5_refuse_13 : decode cX5_refuse 13 = .ok (.putfield 55, 3) := by decide +kernel
theorem dX5_refuse_16 : decode cX5_refuse 16 = .ok (.iconst 0, 1) := by decide +kernel
theorem dX5_refuse_17 : decode cX5_refuse 17 = .ok (.ireturn, 1) := by decide +kernel
set_option maxRecDepth 20000 in
theorem k_X5_refuse (d : Nat) {T : CT} {σ : MS} {a : Nat} (ha : OB T a 5) (hw : WT T σ) : Tn (d + 1) m_X5_refuse 0 T σ [(0, .ref a)] [] (fun ro T2 σ2 => ∃ v : Int, ro = some (.int (iI v)) ∧ T = T2 ∧ WT T2 σ2 ∧ FrC T [43, 44] σ σ2 ∧ (v = 0 ∨ v = 1) ∧ (v = 0)) := by
  refine tn_aload_n dX5_refuse_0 rfl 0 rfl ?_
  refine tn_iconst dX5_refuse_1 ?_
  refine tn_putV (ci := 5) (i := 10) (n := 43) (r := false) (v := 1) tyX5 tyX5_ok nmX5 dX5_refuse_2 rfl lay_5 (by decide) fl5_51 rfl (tyX5_ok 10 (by decide)) rfl rfl rfl ha rfl rfl ?_
  refine tn_aload_n dX5_refuse_5 rfl 0 rfl ?_
  refine tn_aload_n dX5_refuse_6 rfl 0 rfl ?_
  obtain ⟨x1, hx2, hk3⟩ : ∃ x : Nat, σ.2.1 33 a = (x : Int) ∧ (T x).1 = 39 := wf_33 hw ha
  have hk3o : OB T x1 9 := ⟨by omega, by rw [hk3]; rfl, by omega⟩
  refine tn_getR (ci := 5) (i := 0) (n := 33) (x := x1) dX5_refuse_7 rfl lay_5 (by decide) fl5_12 ha rfl rfl (rc_o (by decide) (hx2)) ?_
  refine tn_getI (ci := 9) (i := 6) (n := 87) (t := σ.2.1 87 x1) dX5_refuse_10 rfl lay_9 (by decide) fl5_74 hk3o rfl rfl (rc_o (by decide) (rfl)) ?_
  have g5 : ((-2147483648 : Int) ≤ σ.2.1 87 x1 ∧ σ.2.1 87 x1 ≤ 2147483647) := wf_87 hw hk3o
  refine tn_putV (ci := 5) (i := 11) (n := 44) (r := false) (v := σ.2.1 87 x1) tyX5 tyX5_ok nmX5 dX5_refuse_13 rfl lay_5 (by decide) fl5_55 rfl (tyX5_ok 11 (by decide)) rfl rfl rfl ha rfl rfl ?_
  refine tn_iconst dX5_refuse_16 ?_
  exact tn_zret (v := 0) rfl (by decide) dX5_refuse_17 ⟨_, rfl, rfl, ((hw.put (by decide) (by decide) (fo_43 (by omega))).put (by decide) (by decide) (fo_44 (by omega))), ((FrC.rfl.put (by decide) (by decide)).put (by decide) (by decide)), by omega, by omega⟩
end
section
theorem cd_X5_note : Cond.code yX5_note cX5_note 3 none ∈ pWW := pw3 (List.mem_of_getElem? (i := 83) rfl) rfl
abbrev m_X5_note : MT := (yX5_note, cX5_note, 3, none)
theorem ok_X5_note : pOk m_X5_note := ⟨⟨cd_X5_note, ini_5⟩, by decide +kernel, ⟨by decide +kernel, by decide +kernel⟩, Nat.le_of_ble_eq_true rfl⟩
theorem np_X5_note : (parseMethodDescriptor yX5_note.desc).map (fun d => d.parameters.length) = some 2 := by decide +kernel
theorem im_X5_note : Cond.instanceMethod yX5_note ∈ pWW := pw3 (List.mem_of_getElem? (i := 82) rfl) rfl
theorem se_X5_note : Cond.selects RX5 yX5_note yX5_note ∈ pWW := pws (List.mem_map.mpr ⟨_, lw_pin 8 rfl, rfl⟩) rfl
theorem dX5_note_0 : decode cX5_note 0 = .ok (.aload_n 0, 1) := by decide +kernel
theorem dX5_note_1 : decode cX5_note 1 = .ok (.getfield 51, 3) := by decide +kernel
theorem dX5_note_4 : decode cX5_note 4 = .ok (.ifCond .eq 27, 3) := by decide +kernel
theorem dX5_note_31 : decode cX5_note 31 = .ok (.aload_n 0, 1) := by decide +kernel
theorem dX5_note_32 : decode cX5_note 32 = .ok (.iload_n 1, 1) := by decide +kernel
theorem dX5_note_33 : decode cX5_note 33 = .ok (.putfield 51, 3) := by decide +kernel
theorem dX5_note_36 : decode cX5_note 36 = .ok (.aload_n 0, 1) := by decide +kernel
theorem dX5_note_37 : decode cX5_note 37 = .ok (.iload_n 2, 1) := by decide +kernel
theorem dX5_note_38 : decode cX5_note 38 = .ok (.putfield 55, 3) := by decide +kernel
theorem dX5_note_41 : decode cX5_note 41 = .ok (.return_, 1) := by decide +kernel
theorem dX5_note_7 : decode cX5_note 7 = .ok (.iload_n 2, 1) := by decide +kernel
theorem dX5_note_8 : decode cX5_note 8 = .ok (.aload_n 0, 1) := by decide +kernel
theorem dX5_note_9 : decode cX5_note 9 = .ok (.getfield 55, 3) := by decide +kernel
theorem dX5_note_12 : decode cX5_note 12 = .ok (.if_icmp .lt 19, 3) := by decide +kernel
theorem dX5_note_15 : decode cX5_note 15 = .ok (.iload_n 2, 1) := by decide +kernel
theorem dX5_note_16 : decode cX5_note 16 = .ok (.aload_n 0, 1) := by decide +kernel
theorem dX5_note_17 : decode cX5_note 17 = .ok (.getfield 55, 3) := by decide +kernel
theorem dX5_note_20 : decode cX5_note 20 = .ok (.if_icmp .ne 21, 3) := by decide +kernel
theorem dX5_note_23 : decode cX5_note 23 = .ok (.iload_n 1, 1) := by decide +kernel
theorem dX5_note_24 : decode cX5_note 24 = .ok (.aload_n 0, 1) := by decide +kernel
theorem dX5_note_25 : decode cX5_note 25 = .ok (.getfield 51, 3) := by decide +kernel
theorem dX5_note_28 : decode cX5_note 28 = .ok (.if_icmp .ge 13, 3) := by decide +kernel
set_option maxRecDepth 20000 in
theorem k_X5_note (d : Nat) {T : CT} {σ : MS} {a : Nat} {p1 : Int} {p2 : Int} (ha : OB T a 5) (h_p1 : -2147483648 ≤ p1 ∧ p1 ≤ 2147483647) (h_p2 : -2147483648 ≤ p2 ∧ p2 ≤ 2147483647) (hw : WT T σ) : Tn (d + 1) m_X5_note 0 T σ [(0, .ref a), (1, .int (iI p1)), (2, .int (iI p2))] [] (fun ro T2 σ2 => ro = none ∧ T = T2 ∧ WT T2 σ2 ∧ FrC T [43, 44] σ σ2) := by
  refine tn_aload_n dX5_note_0 rfl 0 rfl ?_
  refine tn_getI (ci := 5) (i := 10) (n := 43) (t := σ.2.1 43 a) dX5_note_1 rfl lay_5 (by decide) fl5_51 ha rfl rfl (rfl) ?_
  have g1 : ((-2147483648 : Int) ≤ σ.2.1 43 a ∧ σ.2.1 43 a ≤ 2147483647) := wf_43 hw ha
  refine tn_if_eq (tgt := 31) dX5_note_4 (by decide) ⟨by omega, by omega⟩ (fun h2 => ?_) (fun h2 => ?_)
  · refine tn_aload_n dX5_note_31 rfl 0 rfl ?_
    refine tn_iload_n dX5_note_32 rfl 1 rfl ?_
    refine tn_putV (ci := 5) (i := 10) (n := 43) (r := false) (v := p1) tyX5 tyX5_ok nmX5 dX5_note_33 rfl lay_5 (by decide) fl5_51 rfl (tyX5_ok 10 (by decide)) rfl rfl rfl ha rfl rfl ?_
    refine tn_aload_n dX5_note_36 rfl 0 rfl ?_
    refine tn_iload_n dX5_note_37 rfl 2 rfl ?_
    refine tn_putV (ci := 5) (i := 11) (n := 44) (r := false) (v := p2) tyX5 tyX5_ok nmX5 dX5_note_38 rfl lay_5 (by decide) fl5_55 rfl (tyX5_ok 11 (by decide)) rfl rfl rfl ha rfl rfl ?_
    exact tn_vret rfl dX5_note_41 ⟨rfl, rfl, ((hw.put (by decide) (by decide) (fo_43 (by omega))).put (by decide) (by decide) (fo_44 (by omega))), ((FrC.rfl.put (by decide) (by decide)).put (by decide) (by decide))⟩
  · refine tn_iload_n dX5_note_7 rfl 2 rfl ?_
    refine tn_aload_n dX5_note_8 rfl 0 rfl ?_
    refine tn_getI (ci := 5) (i := 11) (n := 44) (t := σ.2.1 44 a) dX5_note_9 rfl lay_5 (by decide) fl5_55 ha rfl rfl (rfl) ?_
    have g3 : ((-2147483648 : Int) ≤ σ.2.1 44 a ∧ σ.2.1 44 a ≤ 2147483647) := wf_44 hw ha
    refine tn_icmp_lt (tgt := 31) dX5_note_12 (by decide) ⟨by omega, by omega⟩ ⟨by omega, by omega⟩ (fun h4 => ?_) (fun h4 => ?_)
    · refine tn_aload_n dX5_note_31 rfl 0 rfl ?_
      refine tn_iload_n dX5_note_32 rfl 1 rfl ?_
      refine tn_putV (ci := 5) (i := 10) (n := 43) (r := false) (v := p1) tyX5 tyX5_ok nmX5 dX5_note_33 rfl lay_5 (by decide) fl5_51 rfl (tyX5_ok 10 (by decide)) rfl rfl rfl ha rfl rfl ?_
      refine tn_aload_n dX5_note_36 rfl 0 rfl ?_
      refine tn_iload_n dX5_note_37 rfl 2 rfl ?_
      refine tn_putV (ci := 5) (i := 11) (n := 44) (r := false) (v := p2) tyX5 tyX5_ok nmX5 dX5_note_38 rfl lay_5 (by decide) fl5_55 rfl (tyX5_ok 11 (by decide)) rfl rfl rfl ha rfl rfl ?_
      exact tn_vret rfl dX5_note_41 ⟨rfl, rfl, ((hw.put (by decide) (by decide) (fo_43 (by omega))).put (by decide) (by decide) (fo_44 (by omega))), ((FrC.rfl.put (by decide) (by decide)).put (by decide) (by decide))⟩
    · refine tn_iload_n dX5_note_15 rfl 2 rfl ?_
      refine tn_aload_n dX5_note_16 rfl 0 rfl ?_
      refine tn_getI (ci := 5) (i := 11) (n := 44) (t := σ.2.1 44 a) dX5_note_17 rfl lay_5 (by decide) fl5_55 ha rfl rfl (rfl) ?_
      refine tn_icmp_ne (tgt := 41) dX5_note_20 (by decide) ⟨by omega, by omega⟩ ⟨by omega, by omega⟩ (fun h5 => ?_) (fun h5 => ?_)
      · exact tn_vret rfl dX5_note_41 ⟨rfl, rfl, hw, FrC.rfl⟩
      · refine tn_iload_n dX5_note_23 rfl 1 rfl ?_
        refine tn_aload_n dX5_note_24 rfl 0 rfl ?_
        refine tn_getI (ci := 5) (i := 10) (n := 43) (t := σ.2.1 43 a) dX5_note_25 rfl lay_5 (by decide) fl5_51 ha rfl rfl (rfl) ?_
        refine tn_icmp_ge (tgt := 41) dX5_note_28 (by decide) ⟨by omega, by omega⟩ ⟨by omega, by omega⟩ (fun h6 => ?_) (fun h6 => ?_)
        · exact tn_vret rfl dX5_note_41 ⟨rfl, rfl, hw, FrC.rfl⟩
        · refine tn_aload_n dX5_note_31 rfl 0 rfl ?_
          refine tn_iload_n dX5_note_32 rfl 1 rfl ?_
          refine tn_putV (ci := 5) (i := 10) (n := 43) (r := false) (v := p1) tyX5 tyX5_ok nmX5 dX5_note_33 rfl lay_5 (by decide) fl5_51 rfl (tyX5_ok 10 (by decide)) rfl rfl rfl ha rfl rfl ?_
          refine tn_aload_n dX5_note_36 rfl 0 rfl ?_
          refine tn_iload_n dX5_note_37 rfl 2 rfl ?_
          refine tn_putV (ci := 5) (i := 11) (n := 44) (r := false) (v := p2) tyX5 tyX5_ok nmX5 dX5_note_38 rfl lay_5 (by decide) fl5_55 rfl (tyX5_ok 11 (by decide)) rfl rfl rfl ha rfl rfl ?_
          exact tn_vret rfl dX5_note_41 ⟨rfl, rfl, ((hw.put (by decide) (by decide) (fo_43 (by omega))).put (by decide) (by decide) (fo_44 (by omega))), ((FrC.rfl.put (by decide) (by decide)).put (by decide) (by decide))⟩
end
section
theorem cd_X5_taken : Cond.code yX5_taken cX5_taken 2 (some .boolean) ∈ pWW := pw3 (List.mem_of_getElem? (i := 96) rfl) rfl
abbrev m_X5_taken : MT := (yX5_taken, cX5_taken, 2, (some .boolean))
theorem ok_X5_taken : pOk m_X5_taken := ⟨⟨cd_X5_taken, ini_5⟩, by decide +kernel, ⟨by decide +kernel, by decide +kernel⟩, Nat.le_of_ble_eq_true rfl⟩
theorem np_X5_taken : (parseMethodDescriptor yX5_taken.desc).map (fun d => d.parameters.length) = some 1 := by decide +kernel
theorem im_X5_taken : Cond.instanceMethod yX5_taken ∈ pWW := pw3 (List.mem_of_getElem? (i := 95) rfl) rfl
theorem se_X5_taken : Cond.selects RX5 yX5_taken yX5_taken ∈ pWW := pws (List.mem_map.mpr ⟨_, lw_pin 9 rfl, rfl⟩) rfl
theorem fl5_71 : Cond.fieldLink RX5 71 (TX9 4).1 (TX9 4).2.1 (TX9 4).2.2.1 ∈ pWW := pw1 (List.mem_of_getElem? (i := 49) rfl) rfl
theorem ml5_93 : Cond.methodLink RX5 93 yX9_next ∈ pWW := pw3 (List.mem_of_getElem? (i := 92) rfl) rfl
theorem ml5_90 : Cond.methodLink RX5 90 yX5_refuse ∈ pWW := pw3 (List.mem_of_getElem? (i := 65) rfl) rfl
theorem dX5_taken_0 : decode cX5_taken 0 = .ok (.aload_n 0, 1) := by decide +kernel
theorem dX5_taken_1 : decode cX5_taken 1 = .ok (.getfield 12, 3) := by decide +kernel
theorem dX5_taken_4 : decode cX5_taken 4 = .ok (.getfield 71, 3) := by decide +kernel
theorem dX5_taken_7 : decode cX5_taken 7 = .ok (.iload_n 1, 1) := by decide +kernel
theorem dX5_taken_8 : decode cX5_taken 8 = .ok (.if_icmp .eq 8, 3) := by decide +kernel
theorem dX5_taken_16 : decode cX5_taken 16 = .ok (.aload_n 0, 1) := by decide +kernel
theorem dX5_taken_17 : decode cX5_taken 17 = .ok (.getfield 12, 3) := by decide +kernel
theorem dX5_taken_20 : decode cX5_taken 20 = .ok (.invokevirtual 93, 3) := by decide +kernel
theorem dX5_taken_23 : decode cX5_taken 23 = .ok (.iconst 1, 1) := by decide +kernel
theorem dX5_taken_24 : decode cX5_taken 24 = .ok (.ireturn, 1) := by decide +kernel
theorem dX5_taken_11 : decode cX5_taken 11 = .ok (.aload_n 0, 1) := by decide +kernel
theorem dX5_taken_12 : decode cX5_taken 12 = .ok (.invokevirtual 90, 3) := by decide +kernel
theorem dX5_taken_15 : decode cX5_taken 15 = .ok (.ireturn, 1) := by decide +kernel
set_option maxRecDepth 20000 in
theorem k_X5_taken (d : Nat) {T : CT} {σ : MS} {a : Nat} {s : Int} {kp : Int} (ha : OB T a 5) (h_s : -2147483648 ≤ s ∧ s ≤ 2147483647) (hw : WT T σ) (hs : 40 ≤ s ∧ s ≤ 125) (hkp : kp ≤ 150) (hrp : RP σ a kp) : Tn (d + 2) m_X5_taken 0 T σ [(0, .ref a), (1, .int (iI s))] [] (fun ro T2 σ2 => ∃ v : Int, ro = some (.int (iI v)) ∧ T = T2 ∧ WT T2 σ2 ∧ FrC T [43, 44, 84, 85, 86, 87] σ σ2 ∧ (v = 0 ∨ v = 1) ∧ (RP σ2 a (kp - 4 * v))) := by
  refine tn_aload_n dX5_taken_0 rfl 0 rfl ?_
  obtain ⟨x1, hx2, hk3⟩ : ∃ x : Nat, σ.2.1 33 a = (x : Int) ∧ (T x).1 = 39 := wf_33 hw ha
  have hk3o : OB T x1 9 := ⟨by omega, by rw [hk3]; rfl, by omega⟩
  refine tn_getR (ci := 5) (i := 0) (n := 33) (x := x1) dX5_taken_1 rfl lay_5 (by decide) fl5_12 ha rfl rfl (hx2) ?_
  refine tn_getI (ci := 9) (i := 4) (n := 85) (t := σ.2.1 85 x1) dX5_taken_4 rfl lay_9 (by decide) fl5_71 hk3o rfl rfl (rfl) ?_
  have g5 : ((-2147483648 : Int) ≤ σ.2.1 85 x1 ∧ σ.2.1 85 x1 ≤ 2147483647) := wf_85 hw hk3o
  refine tn_iload_n dX5_taken_7 rfl 1 rfl ?_
  refine tn_icmp_eq (tgt := 16) dX5_taken_8 (by decide) ⟨by omega, by omega⟩ ⟨by omega, by omega⟩ (fun h6 => ?_) (fun h6 => ?_)
  · refine tn_aload_n dX5_taken_16 rfl 0 rfl ?_
    refine tn_getR (ci := 5) (i := 0) (n := 33) (x := x1) dX5_taken_17 rfl lay_5 (by decide) fl5_12 ha rfl rfl (hx2) ?_
    refine tn_callV (M := m_X5_taken) (pc := 20) (ix := 93) (ci := 9) (M' := m_X9_next) (As := []) (rest := []) dX5_taken_20 ok_X9_next im_X9_next se_X9_next ml5_93 np_X9_next rfl rfl hk3o rfl (Nat.le_of_ble_eq_true rfl) (Nat.le_of_ble_eq_true rfl) rfl (k_X9_next (d) (T := T) (σ := σ) (a := x1) hk3o hw (RP.tk hrp hw ha (hx2))) (fun r7 T9 σ8 gt10 hp => ?_)
    obtain ⟨rfl, rfl, w15, F16, f11, f12, f13⟩ := hp
    clear gt10
    have rp17 : RP σ8 a (kp - 4) := RP.next4 hrp (hx2) F16 (by decide) (by decide) (by decide) f11 f13 (by rw [show σ.2.1 85 x1 = σ.2.1 85 x1 from rfl]; omega)
    show Tn _ _ 23 T σ8 [(0, .ref a), (1, .int (iI s))] [] _
    refine tn_iconst dX5_taken_23 ?_
    exact tn_zret (v := 1) rfl (by decide) dX5_taken_24 ⟨_, rfl, rfl, w15, (FrC.rfl.trans (FrC.sub F16 (by decide))), by omega, (RP.up rp17 (by omega))⟩
  · refine tn_aload_n dX5_taken_11 rfl 0 rfl ?_
    refine tn_callV (M := m_X5_taken) (pc := 12) (ix := 90) (ci := 5) (M' := m_X5_refuse) (As := []) (rest := []) dX5_taken_12 ok_X5_refuse im_X5_refuse se_X5_refuse ml5_90 np_X5_refuse rfl rfl ha rfl (Nat.le_of_ble_eq_true rfl) (Nat.le_of_ble_eq_true rfl) rfl (k_X5_refuse (d) (T := T) (σ := σ) (a := a) ha hw ) (fun r18 T20 σ19 gt21 hp => ?_)
    obtain ⟨v24, rfl, rfl, w25, F26, f22, f23⟩ := hp
    clear gt21
    have rp27 : RP σ19 a (kp) := RP.frc hrp F26 (by decide) (by decide) (by decide) (by decide) (by decide)
    show Tn _ _ 15 T σ19 [(0, .ref a), (1, .int (iI s))] [.int (iI v24)] _
    exact tn_zret (v := v24) rfl (by omega) dX5_taken_15 ⟨_, rfl, rfl, w25, (FrC.rfl.trans (FrC.sub F26 (by decide))), by omega, (RP.up rp27 (by omega))⟩
end
section
theorem cd_X5_routineOf : Cond.code yX5_routineOf cX5_routineOf 3 (some .int) ∈ pWW := pw3 (List.mem_of_getElem? (i := 76) rfl) rfl
abbrev m_X5_routineOf : MT := (yX5_routineOf, cX5_routineOf, 3, (some .int))
theorem ok_X5_routineOf : pOk m_X5_routineOf := ⟨⟨cd_X5_routineOf, ini_5⟩, by decide +kernel, ⟨by decide +kernel, by decide +kernel⟩, Nat.le_of_ble_eq_true rfl⟩
theorem np_X5_routineOf : (parseMethodDescriptor yX5_routineOf.desc).map (fun d => d.parameters.length) = some 1 := by decide +kernel
theorem im_X5_routineOf : Cond.instanceMethod yX5_routineOf ∈ pWW := pw3 (List.mem_of_getElem? (i := 75) rfl) rfl
theorem se_X5_routineOf : Cond.selects RX5 yX5_routineOf yX5_routineOf ∈ pWW := pws (List.mem_map.mpr ⟨_, lw_pin 7 rfl, rfl⟩) rfl
theorem fl5_58 : Cond.fieldLink RX5 58 (TX5 5).1 (TX5 5).2.1 (TX5 5).2.2.1 ∈ pWW := pw1 (List.mem_of_getElem? (i := 158) rfl) rfl
theorem fl5_24 : Cond.fieldLink RX5 24 (TX5 3).1 (TX5 3).2.1 (TX5 3).2.2.1 ∈ pWW := pw1 (List.mem_of_getElem? (i := 156) rfl) rfl
theorem nl5_231 : (RX5, 231, yX11_at, "LineKeeper") ∈ nst_M := List.mem_of_getElem? (i := 7) rfl
theorem dX5_routineOf_0 : decode cX5_routineOf 0 = .ok (.iconst 0, 1) := by decide +kernel
theorem dX5_routineOf_1 : decode cX5_routineOf 1 = .ok (.istore_n 2, 1) := by decide +kernel
theorem dX5_routineOf_2 : decode cX5_routineOf 2 = .ok (.iload_n 2, 1) := by decide +kernel
theorem dX5_routineOf_3 : decode cX5_routineOf 3 = .ok (.aload_n 0, 1) := by decide +kernel
theorem dX5_routineOf_4 : decode cX5_routineOf 4 = .ok (.getfield 58, 3) := by decide +kernel
theorem dX5_routineOf_7 : decode cX5_routineOf 7 = .ok (.if_icmp .ge 23, 3) := by decide +kernel
theorem dX5_routineOf_10 : decode cX5_routineOf 10 = .ok (.aload_n 0, 1) := by decide +kernel
theorem dX5_routineOf_11 : decode cX5_routineOf 11 = .ok (.getfield 24, 3) := by decide +kernel
theorem dX5_routineOf_14 : decode cX5_routineOf 14 = .ok (.iload_n 2, 1) := by decide +kernel
theorem dX5_routineOf_15 : decode cX5_routineOf 15 = .ok (.invokestatic 231, 3) := by decide +kernel
theorem dX5_routineOf_18 : decode cX5_routineOf 18 = .ok (.iload_n 1, 1) := by decide +kernel
theorem dX5_routineOf_19 : decode cX5_routineOf 19 = .ok (.if_icmp .ne 5, 3) := by decide +kernel
theorem dX5_routineOf_24 : decode cX5_routineOf 24 = .ok (.iinc 2 1, 3) := by decide +kernel
theorem dX5_routineOf_27 : decode cX5_routineOf 27 = .ok (.goto (-25), 3) := by decide +kernel
set_option maxRecDepth 20000 in
theorem l_X5_routineOf_2 (d : Nat) {T : CT} {σ : MS} {a : Nat} {c1 : Int} {post : Option Value → CT → MS → Prop} (h_a : OB T a 5) (r_c1 : -2147483648 ≤ c1 ∧ c1 ≤ 2147483647) (hw : WT T σ) (hx_22 : ∀ (i2 : Int) , (0 ≤ i2 ∧ i2 ≤ 2147483647) → Tn (d + 2) m_X5_routineOf 22 T σ [(0, .ref a), (1, .int (iI c1)), (2, .int (iI i2))] [] post) (hx_30 : ∀ (i2 : Int) , (0 ≤ i2 ∧ i2 ≤ 2147483647) → Tn (d + 2) m_X5_routineOf 30 T σ [(0, .ref a), (1, .int (iI c1)), (2, .int (iI i2))] [] post) : ∀ (n : Nat) (i2 : Int) , (0 ≤ i2 ∧ i2 ≤ 2147483647) → (2147483700 - i2).toNat = n → Tn (d + 2) m_X5_routineOf 2 T σ [(0, .ref a), (1, .int (iI c1)), (2, .int (iI i2))] [] post := by
  intro n
  induction n using Nat.strongRecOn with
  | _ n ih =>
    intro i2 r_i2 hm
    refine tn_iload_n dX5_routineOf_2 rfl 2 rfl ?_
    refine tn_aload_n dX5_routineOf_3 rfl 0 rfl ?_
    refine tn_getI (ci := 5) (i := 5) (n := 38) (t := σ.2.1 38 a) dX5_routineOf_4 rfl lay_5 (by decide) fl5_58 h_a rfl rfl (rfl) ?_
    have g1 : ((0 : Int) ≤ σ.2.1 38 a ∧ σ.2.1 38 a ≤ 256) := wf_38 hw h_a
    refine tn_icmp_ge (tgt := 30) dX5_routineOf_7 (by decide) ⟨by omega, by omega⟩ ⟨by omega, by omega⟩ (fun h2 => ?_) (fun h2 => ?_)
    · exact tn_sub [0, 1, 2] rfl (hx_30 (i2) (by omega))
    · refine tn_aload_n dX5_routineOf_10 rfl 0 rfl ?_
      obtain ⟨x3, hx4, hk5, hl6⟩ : ∃ x : Nat, σ.2.1 36 a = (x : Int) ∧ AR T x 16 256 256 := wf_36 hw h_a
      have hk5i : IA T x3 := by unfold IA; omega
      refine tn_getR (ci := 5) (i := 3) (n := 36) (x := x3) dX5_routineOf_11 rfl lay_5 (by decide) fl5_24 h_a rfl rfl (hx4) ?_
      refine tn_iload_n dX5_routineOf_14 rfl 2 rfl ?_
      refine tn_callSN (M := m_X5_routineOf) (pc := 15) (ix := 231) (M' := m_X11_at) (As := [.ref x3, .int (iI i2)]) (rest := []) dX5_routineOf_15 ok_X11_at stt_X11_at nl5_231 np_X11_at rfl (Nat.le_of_ble_eq_true rfl) (Nat.le_of_ble_eq_true rfl) rfl (k_X11_at (d) (T := T) (σ := σ) (x := x3) (i := i2) hk5i (by omega) (by omega) hw ) (fun r7 T9 σ8 gt10 hp => ?_)
      obtain ⟨v14, rfl, rfl, rfl, f11, f12, f13⟩ := hp
      clear gt10
      clear f12 f13
      show Tn _ _ 18 T σ [(0, .ref a), (1, .int (iI c1)), (2, .int (iI i2))] [.int (iI v14)] _
      refine tn_iload_n dX5_routineOf_18 rfl 1 rfl ?_
      refine tn_icmp_ne (tgt := 24) dX5_routineOf_19 (by decide) ⟨by omega, by omega⟩ ⟨by omega, by omega⟩ (fun h15 => ?_) (fun h15 => ?_)
      · refine tn_iinc (q0 := 2) (L' := [(2, .int (iI (i2 + 1))), (0, .ref a), (1, .int (iI c1))]) dX5_routineOf_24 rfl (by decide) rfl ?_
        refine tn_goto (tgt := 2) dX5_routineOf_27 (by decide) ?_
        exact tn_sub [1, 2, 0] rfl (ih _ (by omega) (i2 + 1) (by omega) rfl)
      · exact tn_sub [0, 1, 2] rfl (hx_22 (i2) (by omega))
theorem dX5_routineOf_22 : decode cX5_routineOf 22 = .ok (.iload_n 2, 1) := by decide +kernel
theorem dX5_routineOf_23 : decode cX5_routineOf 23 = .ok (.ireturn, 1) := by decide +kernel
theorem dX5_routineOf_30 : decode cX5_routineOf 30 = .ok (.iconst (-1), 1) := by decide +kernel
theorem dX5_routineOf_31 : decode cX5_routineOf 31 = .ok (.ireturn, 1) := by decide +kernel
set_option maxRecDepth 20000 in
theorem k_X5_routineOf (d : Nat) {T : CT} {σ : MS} {a : Nat} {k : Int} (ha : OB T a 5) (h_k : -2147483648 ≤ k ∧ k ≤ 2147483647) (hw : WT T σ) : Tn (d + 2) m_X5_routineOf 0 T σ [(0, .ref a), (1, .int (iI k))] [] (fun ro T2 σ2 => ∃ v : Int, ro = some (.int (iI v)) ∧ T = T2 ∧ σ = σ2 ∧ (-2147483648 ≤ v ∧ v ≤ 2147483647)) := by
  refine tn_iconst dX5_routineOf_0 ?_
  refine tn_istore_n (L' := [(2, .int (iI 0)), (0, .ref a), (1, .int (iI k))]) dX5_routineOf_1 rfl (by decide) rfl ?_
  refine tn_sub [1, 2, 0] rfl (l_X5_routineOf_2 (d) (T := T) (σ := σ) (a := a) (c1 := k) ha (by omega) hw (fun i21 r7 => ?_) (fun i28 r14 => ?_) _ (0) (by omega) rfl)
  · show Tn _ _ 22 T σ [(0, .ref a), (1, .int (iI k)), (2, .int (iI i21))] [] _
    refine tn_iload_n dX5_routineOf_22 rfl 2 rfl ?_
    exact tn_iret rfl dX5_routineOf_23 ⟨_, rfl, rfl, rfl, by omega⟩
  · show Tn _ _ 30 T σ [(0, .ref a), (1, .int (iI k)), (2, .int (iI i28))] [] _
    refine tn_iconst dX5_routineOf_30 ?_
    exact tn_iret rfl dX5_routineOf_31 ⟨_, rfl, rfl, rfl, by omega⟩
end
section
theorem cd_X5_nameIndex : Cond.code yX5_nameIndex cX5_nameIndex 3 (some .int) ∈ pWW := pw3 (List.mem_of_getElem? (i := 108) rfl) rfl
abbrev m_X5_nameIndex : MT := (yX5_nameIndex, cX5_nameIndex, 3, (some .int))
theorem ok_X5_nameIndex : pOk m_X5_nameIndex := ⟨⟨cd_X5_nameIndex, ini_5⟩, by decide +kernel, ⟨by decide +kernel, by decide +kernel⟩, Nat.le_of_ble_eq_true rfl⟩
theorem np_X5_nameIndex : (parseMethodDescriptor yX5_nameIndex.desc).map (fun d => d.parameters.length) = some 1 := by decide +kernel
theorem im_X5_nameIndex : Cond.instanceMethod yX5_nameIndex ∈ pWW := pw3 (List.mem_of_getElem? (i := 107) rfl) rfl
theorem se_X5_nameIndex : Cond.selects RX5 yX5_nameIndex yX5_nameIndex ∈ pWW := pws (List.mem_map.mpr ⟨_, lw_pin 12 rfl, rfl⟩) rfl
theorem fl5_47 : Cond.fieldLink RX5 47 (TX5 2).1 (TX5 2).2.1 (TX5 2).2.2.1 ∈ pWW := pw1 (List.mem_of_getElem? (i := 155) rfl) rfl
theorem fl5_152 : Cond.fieldLink RX5 152 (TX1 2).1 (TX1 2).2.1 (TX1 2).2.2.1 ∈ pWW := pw1 (List.mem_of_getElem? (i := 91) rfl) rfl
theorem fl5_40 : Cond.fieldLink RX5 40 (TX5 15).1 (TX5 15).2.1 (TX5 15).2.2.1 ∈ pWW := pw1 (List.mem_of_getElem? (i := 171) rfl) rfl
theorem dX5_nameIndex_0 : decode cX5_nameIndex 0 = .ok (.iconst 0, 1) := by decide +kernel
theorem dX5_nameIndex_1 : decode cX5_nameIndex 1 = .ok (.istore_n 2, 1) := by decide +kernel
theorem dX5_nameIndex_2 : decode cX5_nameIndex 2 = .ok (.iload_n 2, 1) := by decide +kernel
theorem dX5_nameIndex_3 : decode cX5_nameIndex 3 = .ok (.aload_n 0, 1) := by decide +kernel
theorem dX5_nameIndex_4 : decode cX5_nameIndex 4 = .ok (.getfield 47, 3) := by decide +kernel
theorem dX5_nameIndex_7 : decode cX5_nameIndex 7 = .ok (.getfield 152, 3) := by decide +kernel
theorem dX5_nameIndex_10 : decode cX5_nameIndex 10 = .ok (.if_icmp .ge 30, 3) := by decide +kernel
theorem dX5_nameIndex_13 : decode cX5_nameIndex 13 = .ok (.iload_n 2, 1) := by decide +kernel
theorem dX5_nameIndex_14 : decode cX5_nameIndex 14 = .ok (.aload_n 0, 1) := by decide +kernel
theorem dX5_nameIndex_15 : decode cX5_nameIndex 15 = .ok (.getfield 40, 3) := by decide +kernel
theorem dX5_nameIndex_18 : decode cX5_nameIndex 18 = .ok (.arraylength, 1) := by decide +kernel
theorem dX5_nameIndex_19 : decode cX5_nameIndex 19 = .ok (.if_icmp .ge 21, 3) := by decide +kernel
theorem dX5_nameIndex_22 : decode cX5_nameIndex 22 = .ok (.aload_n 0, 1) := by decide +kernel
theorem dX5_nameIndex_23 : decode cX5_nameIndex 23 = .ok (.getfield 40, 3) := by decide +kernel
theorem dX5_nameIndex_26 : decode cX5_nameIndex 26 = .ok (.iload_n 2, 1) := by decide +kernel
theorem dX5_nameIndex_27 : decode cX5_nameIndex 27 = .ok (.iaload, 1) := by decide +kernel
theorem dX5_nameIndex_28 : decode cX5_nameIndex 28 = .ok (.iload_n 1, 1) := by decide +kernel
theorem dX5_nameIndex_29 : decode cX5_nameIndex 29 = .ok (.if_icmp .ne 5, 3) := by decide +kernel
theorem dX5_nameIndex_34 : decode cX5_nameIndex 34 = .ok (.iinc 2 1, 3) := by decide +kernel
theorem dX5_nameIndex_37 : decode cX5_nameIndex 37 = .ok (.goto (-35), 3) := by decide +kernel
set_option maxRecDepth 20000 in
theorem l_X5_nameIndex_2 (d : Nat) {T : CT} {σ : MS} {a : Nat} {c1 : Int} {post : Option Value → CT → MS → Prop} (h_a : OB T a 5) (r_c1 : -2147483648 ≤ c1 ∧ c1 ≤ 2147483647) (hw : WT T σ) (hx_32 : ∀ (i2 : Int) , (0 ≤ i2 ∧ i2 ≤ 2147483647) → Tn (d + 1) m_X5_nameIndex 32 T σ [(0, .ref a), (1, .int (iI c1)), (2, .int (iI i2))] [] post) (hx_40 : ∀ (i2 : Int) , (0 ≤ i2 ∧ i2 ≤ 2147483647) → Tn (d + 1) m_X5_nameIndex 40 T σ [(0, .ref a), (1, .int (iI c1)), (2, .int (iI i2))] [] post) : ∀ (n : Nat) (i2 : Int) , (0 ≤ i2 ∧ i2 ≤ 2147483647) → (2147483700 - i2).toNat = n → Tn (d + 1) m_X5_nameIndex 2 T σ [(0, .ref a), (1, .int (iI c1)), (2, .int (iI i2))] [] post := by
  intro n
  induction n using Nat.strongRecOn with
  | _ n ih =>
    intro i2 r_i2 hm
    refine tn_iload_n dX5_nameIndex_2 rfl 2 rfl ?_
    refine tn_aload_n dX5_nameIndex_3 rfl 0 rfl ?_
    obtain ⟨x1, hx2, hk3⟩ : ∃ x : Nat, σ.2.1 35 a = (x : Int) ∧ (T x).1 = 31 := wf_35 hw h_a
    have hk3o : OB T x1 1 := ⟨by omega, by rw [hk3]; rfl, by omega⟩
    refine tn_getR (ci := 5) (i := 2) (n := 35) (x := x1) dX5_nameIndex_4 rfl lay_5 (by decide) fl5_47 h_a rfl rfl (hx2) ?_
    refine tn_getI (ci := 1) (i := 2) (n := 7) (t := σ.2.1 7 x1) dX5_nameIndex_7 rfl lay_1 (by decide) fl5_152 hk3o rfl rfl (rfl) ?_
    have g5 : ((0 : Int) ≤ σ.2.1 7 x1 ∧ σ.2.1 7 x1 ≤ 12) := wf_7 hw hk3o
    refine tn_icmp_ge (tgt := 40) dX5_nameIndex_10 (by decide) ⟨by omega, by omega⟩ ⟨by omega, by omega⟩ (fun h6 => ?_) (fun h6 => ?_)
    · exact tn_sub [0, 1, 2] rfl (hx_40 (i2) (by omega))
    · refine tn_iload_n dX5_nameIndex_13 rfl 2 rfl ?_
      refine tn_aload_n dX5_nameIndex_14 rfl 0 rfl ?_
      obtain ⟨x7, hx8, hk9, hl10⟩ : ∃ x : Nat, σ.2.1 48 a = (x : Int) ∧ AR T x 21 12 12 := wf_48 hw h_a
      have hk9i : IA T x7 := by unfold IA; omega
      refine tn_getR (ci := 5) (i := 15) (n := 48) (x := x7) dX5_nameIndex_15 rfl lay_5 (by decide) fl5_40 h_a rfl rfl (hx8) ?_
      refine tn_alenX dX5_nameIndex_18 (Or.inl hk9i) ?_
      refine tn_icmp_ge (tgt := 40) dX5_nameIndex_19 (by decide) ⟨by omega, by omega⟩ ⟨by omega, by omega⟩ (fun h11 => absurd h11 (by omega)) (fun h11 => ?_)
      refine tn_aload_n dX5_nameIndex_22 rfl 0 rfl ?_
      refine tn_getR (ci := 5) (i := 15) (n := 48) (x := x7) dX5_nameIndex_23 rfl lay_5 (by decide) fl5_40 h_a rfl rfl (hx8) ?_
      refine tn_iload_n dX5_nameIndex_26 rfl 2 rfl ?_
      refine tn_ialdX (z := i2) hw dX5_nameIndex_27 hk9i (by omega) (by omega) (by omega) (fun v12 g13q g13 g13k => ?_)
      clear g13k g13q
      refine tn_iload_n dX5_nameIndex_28 rfl 1 rfl ?_
      refine tn_icmp_ne (tgt := 34) dX5_nameIndex_29 (by decide) ⟨by omega, by omega⟩ ⟨by omega, by omega⟩ (fun h14 => ?_) (fun h14 => ?_)
      · refine tn_iinc (q0 := 2) (L' := [(2, .int (iI (i2 + 1))), (0, .ref a), (1, .int (iI c1))]) dX5_nameIndex_34 rfl (by decide) rfl ?_
        refine tn_goto (tgt := 2) dX5_nameIndex_37 (by decide) ?_
        exact tn_sub [1, 2, 0] rfl (ih _ (by omega) (i2 + 1) (by omega) rfl)
      · exact tn_sub [0, 1, 2] rfl (hx_32 (i2) (by omega))
theorem dX5_nameIndex_32 : decode cX5_nameIndex 32 = .ok (.iload_n 2, 1) := by decide +kernel
theorem dX5_nameIndex_33 : decode cX5_nameIndex 33 = .ok (.ireturn, 1) := by decide +kernel
theorem dX5_nameIndex_40 : decode cX5_nameIndex 40 = .ok (.iconst (-1), 1) := by decide +kernel
theorem dX5_nameIndex_41 : decode cX5_nameIndex 41 = .ok (.ireturn, 1) := by decide +kernel
set_option maxRecDepth 20000 in
theorem k_X5_nameIndex (d : Nat) {T : CT} {σ : MS} {a : Nat} {k : Int} (ha : OB T a 5) (h_k : -2147483648 ≤ k ∧ k ≤ 2147483647) (hw : WT T σ) : Tn (d + 1) m_X5_nameIndex 0 T σ [(0, .ref a), (1, .int (iI k))] [] (fun ro T2 σ2 => ∃ v : Int, ro = some (.int (iI v)) ∧ T = T2 ∧ σ = σ2 ∧ (-2147483648 ≤ v ∧ v ≤ 2147483647)) := by
  refine tn_iconst dX5_nameIndex_0 ?_
  refine tn_istore_n (L' := [(2, .int (iI 0)), (0, .ref a), (1, .int (iI k))]) dX5_nameIndex_1 rfl (by decide) rfl ?_
  refine tn_sub [1, 2, 0] rfl (l_X5_nameIndex_2 (d) (T := T) (σ := σ) (a := a) (c1 := k) ha (by omega) hw (fun i21 r7 => ?_) (fun i28 r14 => ?_) _ (0) (by omega) rfl)
  · show Tn _ _ 32 T σ [(0, .ref a), (1, .int (iI k)), (2, .int (iI i21))] [] _
    refine tn_iload_n dX5_nameIndex_32 rfl 2 rfl ?_
    exact tn_iret rfl dX5_nameIndex_33 ⟨_, rfl, rfl, rfl, by omega⟩
  · show Tn _ _ 40 T σ [(0, .ref a), (1, .int (iI k)), (2, .int (iI i28))] [] _
    refine tn_iconst dX5_nameIndex_40 ?_
    exact tn_iret rfl dX5_nameIndex_41 ⟨_, rfl, rfl, rfl, by omega⟩
end
section
theorem cd_X5_register : Cond.code yX5_register cX5_register 2 (some .int) ∈ pWW := pw3 (List.mem_of_getElem? (i := 112) rfl) rfl
abbrev m_X5_register : MT := (yX5_register, cX5_register, 2, (some .int))
theorem ok_X5_register : pOk m_X5_register := ⟨⟨cd_X5_register, ini_5⟩, by decide +kernel, ⟨by decide +kernel, by decide +kernel⟩, Nat.le_of_ble_eq_true rfl⟩
theorem np_X5_register : (parseMethodDescriptor yX5_register.desc).map (fun d => d.parameters.length) = some 0 := by decide +kernel
theorem im_X5_register : Cond.instanceMethod yX5_register ∈ pWW := pw3 (List.mem_of_getElem? (i := 111) rfl) rfl
theorem se_X5_register : Cond.selects RX5 yX5_register yX5_register ∈ pWW := pws (List.mem_map.mpr ⟨_, lw_pin 13 rfl, rfl⟩) rfl
theorem fl5_96 : Cond.fieldLink RX5 96 (TX9 5).1 (TX9 5).2.1 (TX9 5).2.2.1 ∈ pWW := pw1 (List.mem_of_getElem? (i := 51) rfl) rfl
theorem ml5_173 : Cond.methodLink RX5 173 yX5_nameIndex ∈ pWW := pw3 (List.mem_of_getElem? (i := 105) rfl) rfl
theorem nl5_129 : (RX5, 129, yX11_put, "LineKeeper") ∈ nst_M := List.mem_of_getElem? (i := 9) rfl
theorem ml5_113 : Cond.methodLink RX5 113 yX5_note ∈ pWW := pw3 (List.mem_of_getElem? (i := 80) rfl) rfl
theorem dX5_register_0 : decode cX5_register 0 = .ok (.aload_n 0, 1) := by decide +kernel
theorem dX5_register_1 : decode cX5_register 1 = .ok (.aload_n 0, 1) := by decide +kernel
theorem dX5_register_2 : decode cX5_register 2 = .ok (.getfield 12, 3) := by decide +kernel
theorem dX5_register_5 : decode cX5_register 5 = .ok (.getfield 96, 3) := by decide +kernel
theorem dX5_register_8 : decode cX5_register 8 = .ok (.invokevirtual 173, 3) := by decide +kernel
theorem dX5_register_11 : decode cX5_register 11 = .ok (.istore_n 1, 1) := by decide +kernel
theorem dX5_register_12 : decode cX5_register 12 = .ok (.iload_n 1, 1) := by decide +kernel
theorem dX5_register_13 : decode cX5_register 13 = .ok (.iconst (-1), 1) := by decide +kernel
theorem dX5_register_14 : decode cX5_register 14 = .ok (.if_icmp .eq 5, 3) := by decide +kernel
theorem dX5_register_19 : decode cX5_register 19 = .ok (.aload_n 0, 1) := by decide +kernel
theorem dX5_register_20 : decode cX5_register 20 = .ok (.getfield 47, 3) := by decide +kernel
theorem dX5_register_23 : decode cX5_register 23 = .ok (.getfield 152, 3) := by decide +kernel
theorem dX5_register_26 : decode cX5_register 26 = .ok (.bipush 12, 2) := by decide +kernel
theorem dX5_register_28 : decode cX5_register 28 = .ok (.if_icmp .lt 17, 3) := by decide +kernel
theorem dX5_register_45 : decode cX5_register 45 = .ok (.aload_n 0, 1) := by decide +kernel
theorem dX5_register_46 : decode cX5_register 46 = .ok (.getfield 40, 3) := by decide +kernel
theorem dX5_register_49 : decode cX5_register 49 = .ok (.aload_n 0, 1) := by decide +kernel
theorem dX5_register_50 : decode cX5_register 50 = .ok (.getfield 47, 3) := by decide +kernel
theorem dX5_register_53 : decode cX5_register 53 = .ok (.getfield 152, 3) := by decide +kernel
theorem dX5_register_56 : decode cX5_register 56 = .ok (.aload_n 0, 1) := by decide +kernel
theorem dX5_register_57 : decode cX5_register 57 = .ok (.getfield 12, 3) := by decide +kernel
theorem dX5_register_60 : decode cX5_register 60 = .ok (.getfield 96, 3) := by decide +kernel
theorem dX5_register_63 : decode cX5_register 63 = .ok (.invokestatic 129, 3) := by decide +kernel
theorem dX5_register_66 : decode cX5_register 66 = .ok (.aload_n 0, 1) := by decide +kernel
theorem dX5_register_67 : decode cX5_register 67 = .ok (.getfield 47, 3) := by decide +kernel
theorem dX5_register_70 : decode cX5_register 70 = .ok (.dup, 1) := by decide +kernel
theorem dX5_register_71 : decode cX5_register 71 = .ok (.getfield 152, 3) := by decide +kernel
theorem dX5_register_74 : decode cX5_register 74 = .ok (.iconst 1, 1) := by decide +kernel
theorem dX5_register_75 : decode cX5_register 75 = .ok (.iadd, 1) := by decide +kernel
theorem dX5_register_76 : decode cX5_register 76 = .ok (.putfield 152, 3) := by decide +kernel
theorem dX5_register_79 : decode cX5_register 79 = .ok (.aload_n 0, 1) := by decide +kernel
theorem dX5_register_80 : decode cX5_register 80 = .ok (.getfield 47, 3) := by decide +kernel
theorem dX5_register_83 : decode cX5_register 83 = .ok (.getfield 152, 3) := by decide +kernel
theorem dX5_register_86 : decode cX5_register 86 = .ok (.iconst 1, 1) := by decide +kernel
theorem dX5_register_87 : decode cX5_register 87 = .ok (.isub, 1) := by decide +kernel
theorem dX5_register_88 : decode cX5_register 88 = .ok (.ireturn, 1) := by decide +kernel
theorem dX5_register_31 : decode cX5_register 31 = .ok (.aload_n 0, 1) := by decide +kernel
theorem dX5_register_32 : decode cX5_register 32 = .ok (.iconst 5, 1) := by decide +kernel
theorem dX5_register_33 : decode cX5_register 33 = .ok (.aload_n 0, 1) := by decide +kernel
theorem dX5_register_34 : decode cX5_register 34 = .ok (.getfield 12, 3) := by decide +kernel
theorem dX5_register_37 : decode cX5_register 37 = .ok (.getfield 74, 3) := by decide +kernel
theorem dX5_register_40 : decode cX5_register 40 = .ok (.invokevirtual 113, 3) := by decide +kernel
theorem dX5_register_43 : decode cX5_register 43 = .ok (.iconst 0, 1) := by decide +kernel
theorem dX5_register_44 : decode cX5_register 44 = .ok (.ireturn, 1) := by decide +kernel
theorem dX5_register_17 : decode cX5_register 17 = .ok (.iload_n 1, 1) := by decide +kernel
theorem dX5_register_18 : decode cX5_register 18 = .ok (.ireturn, 1) := by decide +kernel
set_option maxRecDepth 20000 in
theorem k_X5_register (d : Nat) {T : CT} {σ : MS} {a : Nat} (ha : OB T a 5) (hw : WT T σ) : Tn (d + 2) m_X5_register 0 T σ [(0, .ref a)] [] (fun ro T2 σ2 => ∃ v : Int, ro = some (.int (iI v)) ∧ T = T2 ∧ WT T2 σ2 ∧ FrC T [7, 43, 44, 521] σ σ2 ∧ (-2147483648 ≤ v ∧ v ≤ 2147483647)) := by
  refine tn_aload_n dX5_register_0 rfl 0 rfl ?_
  refine tn_aload_n dX5_register_1 rfl 0 rfl ?_
  obtain ⟨x1, hx2, hk3⟩ : ∃ x : Nat, σ.2.1 33 a = (x : Int) ∧ (T x).1 = 39 := wf_33 hw ha
  have hk3o : OB T x1 9 := ⟨by omega, by rw [hk3]; rfl, by omega⟩
  refine tn_getR (ci := 5) (i := 0) (n := 33) (x := x1) dX5_register_2 rfl lay_5 (by decide) fl5_12 ha rfl rfl (hx2) ?_
  refine tn_getI (ci := 9) (i := 5) (n := 86) (t := σ.2.1 86 x1) dX5_register_5 rfl lay_9 (by decide) fl5_96 hk3o rfl rfl (rfl) ?_
  have g5 : ((-2147483648 : Int) ≤ σ.2.1 86 x1 ∧ σ.2.1 86 x1 ≤ 2147483647) := wf_86 hw hk3o
  refine tn_callV (M := m_X5_register) (pc := 8) (ix := 173) (ci := 5) (M' := m_X5_nameIndex) (As := [.int (iI (σ.2.1 86 x1))]) (rest := []) dX5_register_8 ok_X5_nameIndex im_X5_nameIndex se_X5_nameIndex ml5_173 np_X5_nameIndex rfl rfl ha rfl (Nat.le_of_ble_eq_true rfl) (Nat.le_of_ble_eq_true rfl) rfl (k_X5_nameIndex (d) (T := T) (σ := σ) (a := a) (k := σ.2.1 86 x1) ha (by omega) hw ) (fun r6 T8 σ7 gt9 hp => ?_)
  obtain ⟨v11, rfl, rfl, rfl, f10⟩ := hp
  clear gt9
  show Tn _ _ 11 T σ [(0, .ref a)] [.int (iI v11)] _
  refine tn_istore_n (L' := [(1, .int (iI v11)), (0, .ref a)]) dX5_register_11 rfl (by decide) rfl ?_
  refine tn_iload_n dX5_register_12 rfl 0 rfl ?_
  refine tn_iconst dX5_register_13 ?_
  refine tn_icmp_eq (tgt := 19) dX5_register_14 (by decide) ⟨by omega, by omega⟩ ⟨by decide, by decide⟩ (fun h12 => ?_) (fun h12 => ?_)
  · refine tn_aload_n dX5_register_19 rfl 1 rfl ?_
    obtain ⟨x13, hx14, hk15⟩ : ∃ x : Nat, σ.2.1 35 a = (x : Int) ∧ (T x).1 = 31 := wf_35 hw ha
    have hk15o : OB T x13 1 := ⟨by omega, by rw [hk15]; rfl, by omega⟩
    refine tn_getR (ci := 5) (i := 2) (n := 35) (x := x13) dX5_register_20 rfl lay_5 (by decide) fl5_47 ha rfl rfl (hx14) ?_
    refine tn_getI (ci := 1) (i := 2) (n := 7) (t := σ.2.1 7 x13) dX5_register_23 rfl lay_1 (by decide) fl5_152 hk15o rfl rfl (rfl) ?_
    have g17 : ((0 : Int) ≤ σ.2.1 7 x13 ∧ σ.2.1 7 x13 ≤ 12) := wf_7 hw hk15o
    refine tn_bipush dX5_register_26 (by decide) ?_
    refine tn_icmp_lt (tgt := 45) dX5_register_28 (by decide) ⟨by omega, by omega⟩ ⟨by decide, by decide⟩ (fun h18 => ?_) (fun h18 => ?_)
    · refine tn_aload_n dX5_register_45 rfl 1 rfl ?_
      obtain ⟨x19, hx20, hk21, hl22⟩ : ∃ x : Nat, σ.2.1 48 a = (x : Int) ∧ AR T x 21 12 12 := wf_48 hw ha
      have hk21i : IA T x19 := by unfold IA; omega
      refine tn_getR (ci := 5) (i := 15) (n := 48) (x := x19) dX5_register_46 rfl lay_5 (by decide) fl5_40 ha rfl rfl (hx20) ?_
      refine tn_aload_n dX5_register_49 rfl 1 rfl ?_
      refine tn_getR (ci := 5) (i := 2) (n := 35) (x := x13) dX5_register_50 rfl lay_5 (by decide) fl5_47 ha rfl rfl (hx14) ?_
      refine tn_getI (ci := 1) (i := 2) (n := 7) (t := σ.2.1 7 x13) dX5_register_53 rfl lay_1 (by decide) fl5_152 hk15o rfl rfl (rfl) ?_
      refine tn_aload_n dX5_register_56 rfl 1 rfl ?_
      refine tn_getR (ci := 5) (i := 0) (n := 33) (x := x1) dX5_register_57 rfl lay_5 (by decide) fl5_12 ha rfl rfl (hx2) ?_
      refine tn_getI (ci := 9) (i := 5) (n := 86) (t := σ.2.1 86 x1) dX5_register_60 rfl lay_9 (by decide) fl5_96 hk3o rfl rfl (rfl) ?_
      refine tn_callSN (M := m_X5_register) (pc := 63) (ix := 129) (M' := m_X11_put) (As := [.ref x19, .int (iI (σ.2.1 7 x13)), .int (iI (σ.2.1 86 x1))]) (rest := []) dX5_register_63 ok_X11_put stt_X11_put nl5_129 np_X11_put rfl (Nat.le_of_ble_eq_true rfl) (Nat.le_of_ble_eq_true rfl) rfl (k_X11_put_21 (d) (T := T) (σ := σ) (x := x19) (i := σ.2.1 7 x13) (y := σ.2.1 86 x1) hk21i (by omega) hk21 (by omega) (by omega) hw ) (fun r23 T25 σ24 gt26 hp => ?_)
      obtain ⟨rfl, rfl, w29, F30, f27⟩ := hp
      clear gt26
      show Tn _ _ 66 T σ24 [(1, .int (iI v11)), (0, .ref a)] [] _
      refine tn_aload_n dX5_register_66 rfl 1 rfl ?_
      refine tn_getR (ci := 5) (i := 2) (n := 35) (x := x13) dX5_register_67 rfl lay_5 (by decide) fl5_47 ha rfl rfl (rc_F F30 (Or.inl (by decide)) (by decide) (hx14)) ?_
      refine tn_dup dX5_register_70 rfl ?_
      refine tn_getI (ci := 1) (i := 2) (n := 7) (t := σ.2.1 7 x13) dX5_register_71 rfl lay_1 (by decide) fl5_152 hk15o rfl rfl (rc_F F30 (Or.inl (by decide)) (by decide) (rfl)) ?_
      refine tn_iconst dX5_register_74 ?_
      refine tn_iadd dX5_register_75 ?_
      refine tn_putV (ci := 1) (i := 2) (n := 7) (r := false) (v := (σ.2.1 7 x13) + 1) tyX1 tyX1_ok nmX1 dX5_register_76 rfl lay_1 (by decide) fl5_152 rfl (tyX1_ok 2 (by decide)) rfl rfl rfl hk15o rfl rfl ?_
      refine tn_aload_n dX5_register_79 rfl 1 rfl ?_
      refine tn_getR (ci := 5) (i := 2) (n := 35) (x := x13) dX5_register_80 rfl lay_5 (by decide) fl5_47 ha rfl rfl (rc_o (by decide) (rc_F F30 (Or.inl (by decide)) (by decide) (hx14))) ?_
      refine tn_getI (ci := 1) (i := 2) (n := 7) (t := (σ.2.1 7 x13) + 1) dX5_register_83 rfl lay_1 (by decide) fl5_152 hk15o rfl rfl (ra_eq) ?_
      refine tn_iconst dX5_register_86 ?_
      refine tn_isub dX5_register_87 ?_
      exact tn_iret rfl dX5_register_88 ⟨_, rfl, rfl, (w29.put (by decide) (by decide) (fo_7 (by omega))), ((FrC.rfl.trans (FrC.sub F30 (by decide))).put (by decide) (by decide)), by omega⟩
    · refine tn_aload_n dX5_register_31 rfl 1 rfl ?_
      refine tn_iconst dX5_register_32 ?_
      refine tn_aload_n dX5_register_33 rfl 1 rfl ?_
      refine tn_getR (ci := 5) (i := 0) (n := 33) (x := x1) dX5_register_34 rfl lay_5 (by decide) fl5_12 ha rfl rfl (hx2) ?_
      refine tn_getI (ci := 9) (i := 6) (n := 87) (t := σ.2.1 87 x1) dX5_register_37 rfl lay_9 (by decide) fl5_74 hk3o rfl rfl (rfl) ?_
      have g31 : ((-2147483648 : Int) ≤ σ.2.1 87 x1 ∧ σ.2.1 87 x1 ≤ 2147483647) := wf_87 hw hk3o
      refine tn_callV (M := m_X5_register) (pc := 40) (ix := 113) (ci := 5) (M' := m_X5_note) (As := [.int (iI 5), .int (iI (σ.2.1 87 x1))]) (rest := []) dX5_register_40 ok_X5_note im_X5_note se_X5_note ml5_113 np_X5_note rfl rfl ha rfl (Nat.le_of_ble_eq_true rfl) (Nat.le_of_ble_eq_true rfl) rfl (k_X5_note (d) (T := T) (σ := σ) (a := a) (p1 := 5) (p2 := σ.2.1 87 x1) ha (by decide) (by omega) hw ) (fun r32 T34 σ33 gt35 hp => ?_)
      obtain ⟨rfl, rfl, w37, F38⟩ := hp
      clear gt35
      show Tn _ _ 43 T σ33 [(1, .int (iI v11)), (0, .ref a)] [] _
      refine tn_iconst dX5_register_43 ?_
      exact tn_iret rfl dX5_register_44 ⟨_, rfl, rfl, w37, (FrC.rfl.trans (FrC.sub F38 (by decide))), by omega⟩
  · refine tn_iload_n dX5_register_17 rfl 0 rfl ?_
    exact tn_iret rfl dX5_register_18 ⟨_, rfl, rfl, hw, FrC.rfl, by omega⟩
end
section
theorem cd_X5_newLabel : Cond.code yX5_newLabel cX5_newLabel 1 (some .int) ∈ pWW := pw3 (List.mem_of_getElem? (i := 221) rfl) rfl
abbrev m_X5_newLabel : MT := (yX5_newLabel, cX5_newLabel, 1, (some .int))
theorem ok_X5_newLabel : pOk m_X5_newLabel := ⟨⟨cd_X5_newLabel, ini_5⟩, by decide +kernel, ⟨by decide +kernel, by decide +kernel⟩, Nat.le_of_ble_eq_true rfl⟩
theorem np_X5_newLabel : (parseMethodDescriptor yX5_newLabel.desc).map (fun d => d.parameters.length) = some 0 := by decide +kernel
theorem im_X5_newLabel : Cond.instanceMethod yX5_newLabel ∈ pWW := pw3 (List.mem_of_getElem? (i := 220) rfl) rfl
theorem se_X5_newLabel : Cond.selects RX5 yX5_newLabel yX5_newLabel ∈ pWW := pws (List.mem_map.mpr ⟨_, lw_pin 29 rfl, rfl⟩) rfl
theorem fl5_133 : Cond.fieldLink RX5 133 (TX5 13).1 (TX5 13).2.1 (TX5 13).2.2.1 ∈ pWW := pw1 (List.mem_of_getElem? (i := 169) rfl) rfl
theorem dX5_newLabel_0 : decode cX5_newLabel 0 = .ok (.aload_n 0, 1) := by decide +kernel
theorem dX5_newLabel_1 : decode cX5_newLabel 1 = .ok (.dup, 1) := by decide +kernel
theorem dX5_newLabel_2 : decode cX5_newLabel 2 = .ok (.getfield 133, 3) := by decide +kernel
theorem dX5_newLabel_5 : decode cX5_newLabel 5 = .ok (.iconst 1, 1) := by decide +kernel
theorem dX5_newLabel_6 : decode cX5_newLabel 6 = .ok (.iadd, 1) := by decide +kernel
theorem dX5_newLabel_7 : decode cX5_newLabel 7 = .ok (.putfield 133, 3) := by decide +kernel
theorem dX5_newLabel_10 : decode cX5_newLabel 10 = .ok (.aload_n 0, 1) := by decide +kernel
theorem dX5_newLabel_11 : decode cX5_newLabel 11 = .ok (.getfield 133, 3) := by decide +kernel
theorem dX5_newLabel_14 : decode cX5_newLabel 14 = .ok (.iconst 1, 1) := by decide +kernel
theorem dX5_newLabel_15 : decode cX5_newLabel 15 = .ok (.isub, 1) := by decide +kernel
theorem dX5_newLabel_16 : decode cX5_newLabel 16 = .ok (.ireturn, 1) := by decide +kernel
set_option maxRecDepth 20000 in
theorem k_X5_newLabel (d : Nat) {T : CT} {σ : MS} {a : Nat} (ha : OB T a 5) (hw : WT T σ) : Tn (d + 1) m_X5_newLabel 0 T σ [(0, .ref a)] [] (fun ro T2 σ2 => ∃ v : Int, ro = some (.int (iI v)) ∧ T = T2 ∧ WT T2 σ2 ∧ FrC T [46] σ σ2 ∧ (-2147483648 ≤ v ∧ v ≤ 2147483647)) := by
  refine tn_aload_n dX5_newLabel_0 rfl 0 rfl ?_
  refine tn_dup dX5_newLabel_1 rfl ?_
  refine tn_getI (ci := 5) (i := 13) (n := 46) (t := σ.2.1 46 a) dX5_newLabel_2 rfl lay_5 (by decide) fl5_133 ha rfl rfl (rfl) ?_
  have g1 : ((-2147483648 : Int) ≤ σ.2.1 46 a ∧ σ.2.1 46 a ≤ 2147483647) := wf_46 hw ha
  refine tn_iconst dX5_newLabel_5 ?_
  refine tn_iadd dX5_newLabel_6 ?_
  refine tn_any (fun z2 g3 => ?_)
  have g3r : -2147483648 ≤ z2 ∧ z2 ≤ 2147483647 := g3
  refine tn_putV (ci := 5) (i := 13) (n := 46) (r := false) (v := z2) tyX5 tyX5_ok nmX5 dX5_newLabel_7 rfl lay_5 (by decide) fl5_133 rfl (tyX5_ok 13 (by decide)) rfl rfl rfl ha rfl rfl ?_
  refine tn_aload_n dX5_newLabel_10 rfl 0 rfl ?_
  refine tn_getI (ci := 5) (i := 13) (n := 46) (t := z2) dX5_newLabel_11 rfl lay_5 (by decide) fl5_133 ha rfl rfl (ra_eq) ?_
  refine tn_iconst dX5_newLabel_14 ?_
  refine tn_isub dX5_newLabel_15 ?_
  refine tn_any (fun z4 g5 => ?_)
  have g5r : -2147483648 ≤ z4 ∧ z4 ≤ 2147483647 := g5
  exact tn_iret rfl dX5_newLabel_16 ⟨_, rfl, rfl, (hw.put (by decide) (by decide) (fo_46 (by omega))), (FrC.rfl.put (by decide) (by decide)), by omega⟩
end
section
theorem cd_X5_listCall : Cond.code yX5_listCall cX5_listCall 4 none ∈ pWW := pw3 (List.mem_of_getElem? (i := 193) rfl) rfl
abbrev m_X5_listCall : MT := (yX5_listCall, cX5_listCall, 4, none)
theorem ok_X5_listCall : pOk m_X5_listCall := ⟨⟨cd_X5_listCall, ini_5⟩, by decide +kernel, ⟨by decide +kernel, by decide +kernel⟩, Nat.le_of_ble_eq_true rfl⟩
theorem np_X5_listCall : (parseMethodDescriptor yX5_listCall.desc).map (fun d => d.parameters.length) = some 3 := by decide +kernel
theorem im_X5_listCall : Cond.instanceMethod yX5_listCall ∈ pWW := pw3 (List.mem_of_getElem? (i := 192) rfl) rfl
theorem se_X5_listCall : Cond.selects RX5 yX5_listCall yX5_listCall ∈ pWW := pws (List.mem_map.mpr ⟨_, lw_pin 24 rfl, rfl⟩) rfl
theorem fl5_31 : Cond.fieldLink RX5 31 (TX5 6).1 (TX5 6).2.1 (TX5 6).2.2.1 ∈ pWW := pw1 (List.mem_of_getElem? (i := 160) rfl) rfl
theorem fl5_61 : Cond.fieldLink RX5 61 (TX5 9).1 (TX5 9).2.1 (TX5 9).2.2.1 ∈ pWW := pw1 (List.mem_of_getElem? (i := 163) rfl) rfl
theorem fl5_34 : Cond.fieldLink RX5 34 (TX5 7).1 (TX5 7).2.1 (TX5 7).2.2.1 ∈ pWW := pw1 (List.mem_of_getElem? (i := 161) rfl) rfl
theorem fl5_37 : Cond.fieldLink RX5 37 (TX5 8).1 (TX5 8).2.1 (TX5 8).2.2.1 ∈ pWW := pw1 (List.mem_of_getElem? (i := 162) rfl) rfl
theorem mlm5_117 : Cond.methodLink RX5 117 Lib.Math.min.name ∈ pWW := pw3 (List.mem_of_getElem? (i := 84) rfl) rfl
theorem dX5_listCall_0 : decode cX5_listCall 0 = .ok (.aload_n 0, 1) := by decide +kernel
theorem dX5_listCall_1 : decode cX5_listCall 1 = .ok (.getfield 31, 3) := by decide +kernel
theorem dX5_listCall_4 : decode cX5_listCall 4 = .ok (.aload_n 0, 1) := by decide +kernel
theorem dX5_listCall_5 : decode cX5_listCall 5 = .ok (.getfield 61, 3) := by decide +kernel
theorem dX5_listCall_8 : decode cX5_listCall 8 = .ok (.iload_n 1, 1) := by decide +kernel
theorem dX5_listCall_9 : decode cX5_listCall 9 = .ok (.invokestatic 129, 3) := by decide +kernel
theorem dX5_listCall_12 : decode cX5_listCall 12 = .ok (.aload_n 0, 1) := by decide +kernel
theorem dX5_listCall_13 : decode cX5_listCall 13 = .ok (.getfield 34, 3) := by decide +kernel
theorem dX5_listCall_16 : decode cX5_listCall 16 = .ok (.aload_n 0, 1) := by decide +kernel
theorem dX5_listCall_17 : decode cX5_listCall 17 = .ok (.getfield 61, 3) := by decide +kernel
theorem dX5_listCall_20 : decode cX5_listCall 20 = .ok (.iload_n 2, 1) := by decide +kernel
theorem dX5_listCall_21 : decode cX5_listCall 21 = .ok (.invokestatic 129, 3) := by decide +kernel
theorem dX5_listCall_24 : decode cX5_listCall 24 = .ok (.aload_n 0, 1) := by decide +kernel
theorem dX5_listCall_25 : decode cX5_listCall 25 = .ok (.getfield 37, 3) := by decide +kernel
theorem dX5_listCall_28 : decode cX5_listCall 28 = .ok (.aload_n 0, 1) := by decide +kernel
theorem dX5_listCall_29 : decode cX5_listCall 29 = .ok (.getfield 61, 3) := by decide +kernel
theorem dX5_listCall_32 : decode cX5_listCall 32 = .ok (.iload_n 3, 1) := by decide +kernel
theorem dX5_listCall_33 : decode cX5_listCall 33 = .ok (.invokestatic 129, 3) := by decide +kernel
theorem dX5_listCall_36 : decode cX5_listCall 36 = .ok (.aload_n 0, 1) := by decide +kernel
theorem dX5_listCall_37 : decode cX5_listCall 37 = .ok (.aload_n 0, 1) := by decide +kernel
theorem dX5_listCall_38 : decode cX5_listCall 38 = .ok (.getfield 61, 3) := by decide +kernel
theorem dX5_listCall_41 : decode cX5_listCall 41 = .ok (.iconst 1, 1) := by decide +kernel
theorem dX5_listCall_42 : decode cX5_listCall 42 = .ok (.iadd, 1) := by decide +kernel
theorem dX5_listCall_43 : decode cX5_listCall 43 = .ok (.sipush 256, 3) := by decide +kernel
theorem dX5_listCall_46 : decode cX5_listCall 46 = .ok (.invokestatic 117, 3) := by decide +kernel
theorem dX5_listCall_49 : decode cX5_listCall 49 = .ok (.putfield 61, 3) := by decide +kernel
theorem dX5_listCall_52 : decode cX5_listCall 52 = .ok (.return_, 1) := by decide +kernel
set_option maxRecDepth 20000 in
theorem k_X5_listCall (d : Nat) {T : CT} {σ : MS} {a : Nat} {p1 : Int} {p2 : Int} {p3 : Int} (ha : OB T a 5) (h_p1 : -2147483648 ≤ p1 ∧ p1 ≤ 2147483647) (h_p2 : -2147483648 ≤ p2 ∧ p2 ≤ 2147483647) (h_p3 : -2147483648 ≤ p3 ∧ p3 ≤ 2147483647) (hw : WT T σ) : Tn (d + 2) m_X5_listCall 0 T σ [(0, .ref a), (1, .int (iI p1)), (2, .int (iI p2)), (3, .int (iI p3))] [] (fun ro T2 σ2 => ro = none ∧ T = T2 ∧ WT T2 σ2 ∧ FrC T [42, 518, 519, 520] σ σ2) := by
  refine tn_aload_n dX5_listCall_0 rfl 0 rfl ?_
  obtain ⟨x1, hx2, hk3, hl4⟩ : ∃ x : Nat, σ.2.1 39 a = (x : Int) ∧ AR T x 18 256 256 := wf_39 hw ha
  have hk3i : IA T x1 := by unfold IA; omega
  refine tn_getR (ci := 5) (i := 6) (n := 39) (x := x1) dX5_listCall_1 rfl lay_5 (by decide) fl5_31 ha rfl rfl (hx2) ?_
  refine tn_aload_n dX5_listCall_4 rfl 0 rfl ?_
  refine tn_getI (ci := 5) (i := 9) (n := 42) (t := σ.2.1 42 a) dX5_listCall_5 rfl lay_5 (by decide) fl5_61 ha rfl rfl (rfl) ?_
  have g5 : ((0 : Int) ≤ σ.2.1 42 a ∧ σ.2.1 42 a ≤ 256) := wf_42 hw ha
  refine tn_iload_n dX5_listCall_8 rfl 1 rfl ?_
  refine tn_callSN (M := m_X5_listCall) (pc := 9) (ix := 129) (M' := m_X11_put) (As := [.ref x1, .int (iI (σ.2.1 42 a)), .int (iI p1)]) (rest := []) dX5_listCall_9 ok_X11_put stt_X11_put nl5_129 np_X11_put rfl (Nat.le_of_ble_eq_true rfl) (Nat.le_of_ble_eq_true rfl) rfl (k_X11_put_18 (d) (T := T) (σ := σ) (x := x1) (i := σ.2.1 42 a) (y := p1) hk3i (by omega) hk3 (by omega) (by omega) hw ) (fun r6 T8 σ7 gt9 hp => ?_)
  obtain ⟨rfl, rfl, w12, F13, f10⟩ := hp
  clear gt9
  show Tn _ _ 12 T σ7 [(0, .ref a), (1, .int (iI p1)), (2, .int (iI p2)), (3, .int (iI p3))] [] _
  refine tn_aload_n dX5_listCall_12 rfl 0 rfl ?_
  obtain ⟨x14, hx15, hk16, hl17⟩ : ∃ x : Nat, σ.2.1 40 a = (x : Int) ∧ AR T x 19 256 256 := wf_40 hw ha
  have hk16i : IA T x14 := by unfold IA; omega
  refine tn_getR (ci := 5) (i := 7) (n := 40) (x := x14) dX5_listCall_13 rfl lay_5 (by decide) fl5_34 ha rfl rfl (rc_F F13 (Or.inl (by decide)) (by decide) (hx15)) ?_
  refine tn_aload_n dX5_listCall_16 rfl 0 rfl ?_
  refine tn_getI (ci := 5) (i := 9) (n := 42) (t := σ.2.1 42 a) dX5_listCall_17 rfl lay_5 (by decide) fl5_61 ha rfl rfl (rc_F F13 (Or.inl (by decide)) (by decide) (rfl)) ?_
  refine tn_iload_n dX5_listCall_20 rfl 2 rfl ?_
  refine tn_callSN (M := m_X5_listCall) (pc := 21) (ix := 129) (M' := m_X11_put) (As := [.ref x14, .int (iI (σ.2.1 42 a)), .int (iI p2)]) (rest := []) dX5_listCall_21 ok_X11_put stt_X11_put nl5_129 np_X11_put rfl (Nat.le_of_ble_eq_true rfl) (Nat.le_of_ble_eq_true rfl) rfl (k_X11_put_19 (d) (T := T) (σ := σ7) (x := x14) (i := σ.2.1 42 a) (y := p2) hk16i (by omega) hk16 (by omega) (by omega) w12 ) (fun r18 T20 σ19 gt21 hp => ?_)
  obtain ⟨rfl, rfl, w24, F25, f22⟩ := hp
  clear gt21
  show Tn _ _ 24 T σ19 [(0, .ref a), (1, .int (iI p1)), (2, .int (iI p2)), (3, .int (iI p3))] [] _
  refine tn_aload_n dX5_listCall_24 rfl 0 rfl ?_
  obtain ⟨x26, hx27, hk28, hl29⟩ : ∃ x : Nat, σ.2.1 41 a = (x : Int) ∧ AR T x 20 256 256 := wf_41 hw ha
  have hk28i : IA T x26 := by unfold IA; omega
  refine tn_getR (ci := 5) (i := 8) (n := 41) (x := x26) dX5_listCall_25 rfl lay_5 (by decide) fl5_37 ha rfl rfl (rc_F F25 (Or.inl (by decide)) (by decide) (rc_F F13 (Or.inl (by decide)) (by decide) (hx27))) ?_
  refine tn_aload_n dX5_listCall_28 rfl 0 rfl ?_
  refine tn_getI (ci := 5) (i := 9) (n := 42) (t := σ.2.1 42 a) dX5_listCall_29 rfl lay_5 (by decide) fl5_61 ha rfl rfl (rc_F F25 (Or.inl (by decide)) (by decide) (rc_F F13 (Or.inl (by decide)) (by decide) (rfl))) ?_
  refine tn_iload_n dX5_listCall_32 rfl 3 rfl ?_
  refine tn_callSN (M := m_X5_listCall) (pc := 33) (ix := 129) (M' := m_X11_put) (As := [.ref x26, .int (iI (σ.2.1 42 a)), .int (iI p3)]) (rest := []) dX5_listCall_33 ok_X11_put stt_X11_put nl5_129 np_X11_put rfl (Nat.le_of_ble_eq_true rfl) (Nat.le_of_ble_eq_true rfl) rfl (k_X11_put_20 (d) (T := T) (σ := σ19) (x := x26) (i := σ.2.1 42 a) (y := p3) hk28i (by omega) hk28 (by omega) (by omega) w24 ) (fun r30 T32 σ31 gt33 hp => ?_)
  obtain ⟨rfl, rfl, w36, F37, f34⟩ := hp
  clear gt33
  show Tn _ _ 36 T σ31 [(0, .ref a), (1, .int (iI p1)), (2, .int (iI p2)), (3, .int (iI p3))] [] _
  refine tn_aload_n dX5_listCall_36 rfl 0 rfl ?_
  refine tn_aload_n dX5_listCall_37 rfl 0 rfl ?_
  refine tn_getI (ci := 5) (i := 9) (n := 42) (t := σ.2.1 42 a) dX5_listCall_38 rfl lay_5 (by decide) fl5_61 ha rfl rfl (rc_F F37 (Or.inl (by decide)) (by decide) (rc_F F25 (Or.inl (by decide)) (by decide) (rc_F F13 (Or.inl (by decide)) (by decide) (rfl)))) ?_
  refine tn_iconst dX5_listCall_41 ?_
  refine tn_iadd dX5_listCall_42 ?_
  refine tn_sipush dX5_listCall_43 (by decide) ?_
  refine tn_mmin (x := (σ.2.1 42 a) + 1) (y := 256) dX5_listCall_46 mlm5_117 stM_min iniM cdM_min (by omega) (Nat.le_of_ble_eq_true rfl) ⟨by omega, by omega⟩ ⟨by omega, by omega⟩ (fun z38 g39 => ?_)
  refine tn_putV (ci := 5) (i := 9) (n := 42) (r := false) (v := z38) tyX5 tyX5_ok nmX5 dX5_listCall_49 rfl lay_5 (by decide) fl5_61 rfl (tyX5_ok 9 (by decide)) rfl rfl rfl ha rfl rfl ?_
  exact tn_vret rfl dX5_listCall_52 ⟨rfl, rfl, (w36.put (by decide) (by decide) (fo_42 (by omega))), ((((FrC.rfl.trans (FrC.sub F13 (by decide))).trans (FrC.sub F25 (by decide))).trans (FrC.sub F37 (by decide))).put (by decide) (by decide))⟩
end
section
theorem cd_X5_zeroToNew : Cond.code yX5_zeroToNew cX5_zeroToNew 2 (some .int) ∈ pWW := pw3 (List.mem_of_getElem? (i := 217) rfl) rfl
abbrev m_X5_zeroToNew : MT := (yX5_zeroToNew, cX5_zeroToNew, 2, (some .int))
theorem ok_X5_zeroToNew : pOk m_X5_zeroToNew := ⟨⟨cd_X5_zeroToNew, ini_5⟩, by decide +kernel, ⟨by decide +kernel, by decide +kernel⟩, Nat.le_of_ble_eq_true rfl⟩
theorem np_X5_zeroToNew : (parseMethodDescriptor yX5_zeroToNew.desc).map (fun d => d.parameters.length) = some 0 := by decide +kernel
theorem im_X5_zeroToNew : Cond.instanceMethod yX5_zeroToNew ∈ pWW := pw3 (List.mem_of_getElem? (i := 216) rfl) rfl
theorem se_X5_zeroToNew : Cond.selects RX5 yX5_zeroToNew yX5_zeroToNew ∈ pWW := pws (List.mem_map.mpr ⟨_, lw_pin 28 rfl, rfl⟩) rfl
theorem ml5_238 : Cond.methodLink RX5 238 yX5_newLabel ∈ pWW := pw3 (List.mem_of_getElem? (i := 218) rfl) rfl
theorem ml5_139 : Cond.methodLink RX5 139 yX1_append ∈ pWW := pw3 (List.mem_of_getElem? (i := 125) rfl) rfl
theorem fl5_216 : Cond.fieldLink RX5 216 (TX5 17).1 (TX5 17).2.1 (TX5 17).2.2.1 ∈ pWW := pw1 (List.mem_of_getElem? (i := 173) rfl) rfl
theorem fl5_219 : Cond.fieldLink RX5 219 (TX5 18).1 (TX5 18).2.1 (TX5 18).2.2.1 ∈ pWW := pw1 (List.mem_of_getElem? (i := 174) rfl) rfl
theorem ml5_143 : Cond.methodLink RX5 143 yX1_lastOperand ∈ pWW := pw3 (List.mem_of_getElem? (i := 186) rfl) rfl
theorem dX5_zeroToNew_0 : decode cX5_zeroToNew 0 = .ok (.aload_n 0, 1) := by decide +kernel
theorem dX5_zeroToNew_1 : decode cX5_zeroToNew 1 = .ok (.invokevirtual 238, 3) := by decide +kernel
theorem dX5_zeroToNew_4 : decode cX5_zeroToNew 4 = .ok (.istore_n 1, 1) := by decide +kernel
theorem dX5_zeroToNew_5 : decode cX5_zeroToNew 5 = .ok (.aload_n 0, 1) := by decide +kernel
theorem dX5_zeroToNew_6 : decode cX5_zeroToNew 6 = .ok (.getfield 47, 3) := by decide +kernel
theorem dX5_zeroToNew_9 : decode cX5_zeroToNew 9 = .ok (.bipush 9, 2) := by decide +kernel
theorem dX5_zeroToNew_11 : decode cX5_zeroToNew 11 = .ok (.iload_n 1, 1) := by decide +kernel
theorem dX5_zeroToNew_12 : decode cX5_zeroToNew 12 = .ok (.iconst 0, 1) := by decide +kernel
theorem dX5_zeroToNew_13 : decode cX5_zeroToNew 13 = .ok (.invokevirtual 139, 3) := by decide +kernel
theorem dX5_zeroToNew_16 : decode cX5_zeroToNew 16 = .ok (.aload_n 0, 1) := by decide +kernel
theorem dX5_zeroToNew_17 : decode cX5_zeroToNew 17 = .ok (.getfield 47, 3) := by decide +kernel
theorem dX5_zeroToNew_20 : decode cX5_zeroToNew 20 = .ok (.iconst 0, 1) := by decide +kernel
theorem dX5_zeroToNew_21 : decode cX5_zeroToNew 21 = .ok (.aload_n 0, 1) := by decide +kernel
theorem dX5_zeroToNew_22 : decode cX5_zeroToNew 22 = .ok (.getfield 216, 3) := by decide +kernel
theorem dX5_zeroToNew_25 : decode cX5_zeroToNew 25 = .ok (.aload_n 0, 1) := by decide +kernel
theorem dX5_zeroToNew_26 : decode cX5_zeroToNew 26 = .ok (.getfield 219, 3) := by decide +kernel
theorem dX5_zeroToNew_29 : decode cX5_zeroToNew 29 = .ok (.invokevirtual 143, 3) := by decide +kernel
theorem dX5_zeroToNew_32 : decode cX5_zeroToNew 32 = .ok (.iload_n 1, 1) := by decide +kernel
theorem dX5_zeroToNew_33 : decode cX5_zeroToNew 33 = .ok (.ireturn, 1) := by decide +kernel
set_option maxRecDepth 20000 in
theorem k_X5_zeroToNew (d : Nat) {T : CT} {σ : MS} {a : Nat} {kp : Int} (ha : OB T a 5) (hw : WT T σ) (hkp : kp ≤ 150) (hrp : RP σ a kp) : Tn (d + 4) m_X5_zeroToNew 0 T σ [(0, .ref a)] [] (fun ro T2 σ2 => ∃ v : Int, ro = some (.int (iI v)) ∧ WT T2 σ2 ∧ FrC T [5, 6, 46] σ σ2 ∧ (-2147483648 ≤ v ∧ v ≤ 2147483647) ∧ (RP σ2 a (kp + 1))) := by
  refine tn_aload_n dX5_zeroToNew_0 rfl 0 rfl ?_
  refine tn_callV (M := m_X5_zeroToNew) (pc := 1) (ix := 238) (ci := 5) (M' := m_X5_newLabel) (As := []) (rest := []) dX5_zeroToNew_1 ok_X5_newLabel im_X5_newLabel se_X5_newLabel ml5_238 np_X5_newLabel rfl rfl ha rfl (Nat.le_of_ble_eq_true rfl) (Nat.le_of_ble_eq_true rfl) rfl (k_X5_newLabel (d + 2) (T := T) (σ := σ) (a := a) ha hw ) (fun r1 T3 σ2 gt4 hp => ?_)
  obtain ⟨v6, rfl, rfl, w7, F8, f5⟩ := hp
  clear gt4
  have rp9 : RP σ2 a (kp) := RP.frc hrp F8 (by decide) (by decide) (by decide) (by decide) (by decide)
  show Tn _ _ 4 T σ2 [(0, .ref a)] [.int (iI v6)] _
  refine tn_istore_n (L' := [(1, .int (iI v6)), (0, .ref a)]) dX5_zeroToNew_4 rfl (by decide) rfl ?_
  refine tn_aload_n dX5_zeroToNew_5 rfl 1 rfl ?_
  obtain ⟨x10, hx11, hk12⟩ : ∃ x : Nat, σ.2.1 35 a = (x : Int) ∧ (T x).1 = 31 := wf_35 hw ha
  have hk12o : OB T x10 1 := ⟨by omega, by rw [hk12]; rfl, by omega⟩
  refine tn_getR (ci := 5) (i := 2) (n := 35) (x := x10) dX5_zeroToNew_6 rfl lay_5 (by decide) fl5_47 ha rfl rfl (rc_F F8 (Or.inl (by decide)) (by decide) (hx11)) ?_
  refine tn_bipush dX5_zeroToNew_9 (by decide) ?_
  refine tn_iload_n dX5_zeroToNew_11 rfl 0 rfl ?_
  refine tn_iconst dX5_zeroToNew_12 ?_
  have q18 : σ2.2.1 6 x10 = σ.2.1 6 x10 := rc_F F8 (Or.inl (by decide)) (by decide) (rfl)
  refine tn_callV (M := m_X5_zeroToNew) (pc := 13) (ix := 139) (ci := 1) (M' := m_X1_append) (As := [.int (iI 9), .int (iI v6), .int (iI 0)]) (rest := []) dX5_zeroToNew_13 ok_X1_append im_X1_append se_X1_append ml5_139 np_X1_append rfl rfl hk12o rfl (Nat.le_of_ble_eq_true rfl) (Nat.le_of_ble_eq_true rfl) rfl (k_X1_append (d) (T := T) (σ := σ2) (a := x10) (k := 9) (x := v6) (y := 0) hk12o hk12 (by decide) (by omega) (by decide) w7 (RP.cnt rp9 w7 ha (rc_F F8 (Or.inl (by decide)) (by decide) (hx11)) (by omega)) (by omega)) (fun r14 T16 σ15 gt17 hp => ?_)
  obtain ⟨rfl, w21, F22, f19⟩ := hp
  replace ha : OB T16 a 5 := gt17.ob ha
  have rp23 : RP σ15 a (kp + 1) := RP.app rp9 (rc_F F8 (Or.inl (by decide)) (by decide) (hx11)) F22 (by decide) (by decide) (by decide) (by decide) f19
  show Tn _ _ 16 T16 σ15 [(1, .int (iI v6)), (0, .ref a)] [] _
  refine tn_aload_n dX5_zeroToNew_16 rfl 1 rfl ?_
  obtain ⟨x24, hx25, hk26⟩ : ∃ x : Nat, σ15.2.1 35 a = (x : Int) ∧ (T16 x).1 = 31 := wf_35 w21 ha
  have hk26o : OB T16 x24 1 := ⟨by omega, by rw [hk26]; rfl, by omega⟩
  refine tn_getR (ci := 5) (i := 2) (n := 35) (x := x24) dX5_zeroToNew_17 rfl lay_5 (by decide) fl5_47 ha rfl rfl (hx25) ?_
  refine tn_iconst dX5_zeroToNew_20 ?_
  refine tn_aload_n dX5_zeroToNew_21 rfl 1 rfl ?_
  refine tn_getI (ci := 5) (i := 17) (n := 50) (t := σ15.2.1 50 a) dX5_zeroToNew_22 rfl lay_5 (by decide) fl5_216 ha rfl rfl (rfl) ?_
  have g28 : ((-2147483648 : Int) ≤ σ15.2.1 50 a ∧ σ15.2.1 50 a ≤ 2147483647) := wf_50 w21 ha
  refine tn_aload_n dX5_zeroToNew_25 rfl 1 rfl ?_
  refine tn_getI (ci := 5) (i := 18) (n := 51) (t := σ15.2.1 51 a) dX5_zeroToNew_26 rfl lay_5 (by decide) fl5_219 ha rfl rfl (rfl) ?_
  have g29 : ((-2147483648 : Int) ≤ σ15.2.1 51 a ∧ σ15.2.1 51 a ≤ 2147483647) := wf_51 w21 ha
  refine tn_callV (M := m_X5_zeroToNew) (pc := 29) (ix := 143) (ci := 1) (M' := m_X1_lastOperand) (As := [.int (iI 0), .int (iI (σ15.2.1 50 a)), .int (iI (σ15.2.1 51 a))]) (rest := []) dX5_zeroToNew_29 ok_X1_lastOperand im_X1_lastOperand se_X1_lastOperand ml5_143 np_X1_lastOperand rfl rfl hk26o rfl (Nat.le_of_ble_eq_true rfl) (Nat.le_of_ble_eq_true rfl) rfl (k_X1_lastOperand (d + 2) (T := T16) (σ := σ15) (a := x24) (i := 0) (k := σ15.2.1 50 a) (y := σ15.2.1 51 a) hk26o (by decide) (by omega) (by omega) w21 ) (fun r30 T32 σ31 gt33 hp => ?_)
  obtain ⟨rfl, rfl, w35, F36⟩ := hp
  clear gt33
  have rp37 : RP σ31 a (kp + 1) := RP.frc rp23 F36 (by decide) (by decide) (by decide) (by decide) (by decide)
  show Tn _ _ 32 T16 σ31 [(1, .int (iI v6)), (0, .ref a)] [] _
  refine tn_iload_n dX5_zeroToNew_32 rfl 0 rfl ?_
  exact tn_iret rfl dX5_zeroToNew_33 ⟨_, rfl, w35, (((FrC.rfl.trans (FrC.sub F8 (by decide))).trans (FrC.sub F22 (by decide))).trans (FrC.sub (FrC.old F36 gt17) (by decide))), by omega, (RP.up rp37 (by omega))⟩
end
section
theorem cd_X5_join : Cond.code yX5_join cX5_join 5 none ∈ pWW := pw3 (List.mem_of_getElem? (i := 185) rfl) rfl
abbrev m_X5_join : MT := (yX5_join, cX5_join, 5, none)
theorem ok_X5_join : pOk m_X5_join := ⟨⟨cd_X5_join, ini_5⟩, by decide +kernel, ⟨by decide +kernel, by decide +kernel⟩, Nat.le_of_ble_eq_true rfl⟩
theorem np_X5_join : (parseMethodDescriptor yX5_join.desc).map (fun d => d.parameters.length) = some 3 := by decide +kernel
theorem im_X5_join : Cond.instanceMethod yX5_join ∈ pWW := pw3 (List.mem_of_getElem? (i := 184) rfl) rfl
theorem se_X5_join : Cond.selects RX5 yX5_join yX5_join ∈ pWW := pws (List.mem_map.mpr ⟨_, lw_pin 23 rfl, rfl⟩) rfl
theorem fl5_136 : Cond.fieldLink RX5 136 (TX5 14).1 (TX5 14).2.1 (TX5 14).2.2.1 ∈ pWW := pw1 (List.mem_of_getElem? (i := 170) rfl) rfl
theorem dX5_join_0 : decode cX5_join 0 = .ok (.sipush 1000, 3) := by decide +kernel
theorem dX5_join_3 : decode cX5_join 3 = .ok (.aload_n 0, 1) := by decide +kernel
theorem dX5_join_4 : decode cX5_join 4 = .ok (.getfield 136, 3) := by decide +kernel
theorem dX5_join_7 : decode cX5_join 7 = .ok (.iadd, 1) := by decide +kernel
theorem dX5_join_8 : decode cX5_join 8 = .ok (.istore 4, 2) := by decide +kernel
theorem dX5_join_10 : decode cX5_join 10 = .ok (.aload_n 0, 1) := by decide +kernel
theorem dX5_join_11 : decode cX5_join 11 = .ok (.dup, 1) := by decide +kernel
theorem dX5_join_12 : decode cX5_join 12 = .ok (.getfield 136, 3) := by decide +kernel
theorem dX5_join_15 : decode cX5_join 15 = .ok (.iconst 1, 1) := by decide +kernel
theorem dX5_join_16 : decode cX5_join 16 = .ok (.iadd, 1) := by decide +kernel
theorem dX5_join_17 : decode cX5_join 17 = .ok (.putfield 136, 3) := by decide +kernel
theorem dX5_join_20 : decode cX5_join 20 = .ok (.aload_n 0, 1) := by decide +kernel
theorem dX5_join_21 : decode cX5_join 21 = .ok (.getfield 47, 3) := by decide +kernel
theorem dX5_join_24 : decode cX5_join 24 = .ok (.iload_n 1, 1) := by decide +kernel
theorem dX5_join_25 : decode cX5_join 25 = .ok (.iload 4, 2) := by decide +kernel
theorem dX5_join_27 : decode cX5_join 27 = .ok (.iconst 0, 1) := by decide +kernel
theorem dX5_join_28 : decode cX5_join 28 = .ok (.invokevirtual 139, 3) := by decide +kernel
theorem dX5_join_31 : decode cX5_join 31 = .ok (.aload_n 0, 1) := by decide +kernel
theorem dX5_join_32 : decode cX5_join 32 = .ok (.getfield 47, 3) := by decide +kernel
theorem dX5_join_35 : decode cX5_join 35 = .ok (.iconst 0, 1) := by decide +kernel
theorem dX5_join_36 : decode cX5_join 36 = .ok (.iload_n 2, 1) := by decide +kernel
theorem dX5_join_37 : decode cX5_join 37 = .ok (.iload_n 3, 1) := by decide +kernel
theorem dX5_join_38 : decode cX5_join 38 = .ok (.invokevirtual 143, 3) := by decide +kernel
theorem dX5_join_41 : decode cX5_join 41 = .ok (.aload_n 0, 1) := by decide +kernel
theorem dX5_join_42 : decode cX5_join 42 = .ok (.getfield 47, 3) := by decide +kernel
theorem dX5_join_45 : decode cX5_join 45 = .ok (.iconst 1, 1) := by decide +kernel
theorem dX5_join_46 : decode cX5_join 46 = .ok (.aload_n 0, 1) := by decide +kernel
theorem dX5_join_47 : decode cX5_join 47 = .ok (.getfield 216, 3) := by decide +kernel
theorem dX5_join_50 : decode cX5_join 50 = .ok (.aload_n 0, 1) := by decide +kernel
theorem dX5_join_51 : decode cX5_join 51 = .ok (.getfield 219, 3) := by decide +kernel
theorem dX5_join_54 : decode cX5_join 54 = .ok (.invokevirtual 143, 3) := by decide +kernel
theorem dX5_join_57 : decode cX5_join 57 = .ok (.aload_n 0, 1) := by decide +kernel
theorem dX5_join_58 : decode cX5_join 58 = .ok (.iconst 2, 1) := by decide +kernel
theorem dX5_join_59 : decode cX5_join 59 = .ok (.putfield 216, 3) := by decide +kernel
theorem dX5_join_62 : decode cX5_join 62 = .ok (.aload_n 0, 1) := by decide +kernel
theorem dX5_join_63 : decode cX5_join 63 = .ok (.iload 4, 2) := by decide +kernel
theorem dX5_join_65 : decode cX5_join 65 = .ok (.putfield 219, 3) := by decide +kernel
theorem dX5_join_68 : decode cX5_join 68 = .ok (.return_, 1) := by decide +kernel
set_option maxRecDepth 20000 in
theorem k_X5_join (d : Nat) {T : CT} {σ : MS} {a : Nat} {k : Int} {e : Int} {l : Int} {kp : Int} (ha : OB T a 5) (h_k : -2147483648 ≤ k ∧ k ≤ 2147483647) (h_e : -2147483648 ≤ e ∧ e ≤ 2147483647) (h_l : -2147483648 ≤ l ∧ l ≤ 2147483647) (hw : WT T σ) (hk : k ≠ 14 ∧ k ≠ 15) (hkp : kp ≤ 150) (hrp : RP σ a kp) : Tn (d + 4) m_X5_join 0 T σ [(0, .ref a), (1, .int (iI k)), (2, .int (iI e)), (3, .int (iI l))] [] (fun ro T2 σ2 => ro = none ∧ WT T2 σ2 ∧ FrC T [5, 6, 47, 50, 51] σ σ2 ∧ (RP σ2 a (kp + 1))) := by
  refine tn_sipush dX5_join_0 (by decide) ?_
  refine tn_aload_n dX5_join_3 rfl 0 rfl ?_
  refine tn_getI (ci := 5) (i := 14) (n := 47) (t := σ.2.1 47 a) dX5_join_4 rfl lay_5 (by decide) fl5_136 ha rfl rfl (rfl) ?_
  have g1 : ((-2147483648 : Int) ≤ σ.2.1 47 a ∧ σ.2.1 47 a ≤ 2147483647) := wf_47 hw ha
  refine tn_iadd dX5_join_7 ?_
  refine tn_any (fun z2 g3 => ?_)
  have g3r : -2147483648 ≤ z2 ∧ z2 ≤ 2147483647 := g3
  refine tn_istore (L' := [(4, .int (iI z2)), (0, .ref a), (1, .int (iI k)), (2, .int (iI e)), (3, .int (iI l))]) dX5_join_8 (by decide) rfl ?_
  refine tn_aload_n dX5_join_10 rfl 1 rfl ?_
  refine tn_dup dX5_join_11 rfl ?_
  refine tn_getI (ci := 5) (i := 14) (n := 47) (t := σ.2.1 47 a) dX5_join_12 rfl lay_5 (by decide) fl5_136 ha rfl rfl (rfl) ?_
  refine tn_iconst dX5_join_15 ?_
  refine tn_iadd dX5_join_16 ?_
  refine tn_any (fun z4 g5 => ?_)
  have g5r : -2147483648 ≤ z4 ∧ z4 ≤ 2147483647 := g5
  refine tn_putV (ci := 5) (i := 14) (n := 47) (r := false) (v := z4) tyX5 tyX5_ok nmX5 dX5_join_17 rfl lay_5 (by decide) fl5_136 rfl (tyX5_ok 14 (by decide)) rfl rfl rfl ha rfl rfl ?_
  refine tn_aload_n dX5_join_20 rfl 1 rfl ?_
  obtain ⟨x6, hx7, hk8⟩ : ∃ x : Nat, σ.2.1 35 a = (x : Int) ∧ (T x).1 = 31 := wf_35 hw ha
  have hk8o : OB T x6 1 := ⟨by omega, by rw [hk8]; rfl, by omega⟩
  refine tn_getR (ci := 5) (i := 2) (n := 35) (x := x6) dX5_join_21 rfl lay_5 (by decide) fl5_47 ha rfl rfl (rc_o (by decide) (hx7)) ?_
  refine tn_iload_n dX5_join_24 rfl 2 rfl ?_
  refine tn_iload dX5_join_25 0 rfl ?_
  refine tn_iconst dX5_join_27 ?_
  have q14 : (sA 47 a (z4) σ).2.1 6 x6 = σ.2.1 6 x6 := rc_o (by decide) (rfl)
  refine tn_callV (M := m_X5_join) (pc := 28) (ix := 139) (ci := 1) (M' := m_X1_append) (As := [.int (iI k), .int (iI z2), .int (iI 0)]) (rest := []) dX5_join_28 ok_X1_append im_X1_append se_X1_append ml5_139 np_X1_append rfl rfl hk8o rfl (Nat.le_of_ble_eq_true rfl) (Nat.le_of_ble_eq_true rfl) rfl (k_X1_append (d) (T := T) (σ := (sA 47 a (z4) σ)) (a := x6) (k := k) (x := z2) (y := 0) hk8o hk8 (by omega) (by omega) (by decide) (hw.put (by decide) (by decide) (fo_47 (by omega))) (RP.cnt (hrp.put (by decide)) (hw.put (by decide) (by decide) (fo_47 (by omega))) ha (rc_o (by decide) (hx7)) (by omega)) (by omega)) (fun r10 T12 σ11 gt13 hp => ?_)
  obtain ⟨rfl, w17, F18, f15⟩ := hp
  replace ha : OB T12 a 5 := gt13.ob ha
  have rp19 : RP σ11 a (kp + 1) := RP.app (hrp.put (by decide)) (rc_o (by decide) (hx7)) F18 (by decide) (by decide) (by decide) (by decide) f15
  show Tn _ _ 31 T12 σ11 [(4, .int (iI z2)), (0, .ref a), (1, .int (iI k)), (2, .int (iI e)), (3, .int (iI l))] [] _
  refine tn_aload_n dX5_join_31 rfl 1 rfl ?_
  obtain ⟨x20, hx21, hk22⟩ : ∃ x : Nat, σ11.2.1 35 a = (x : Int) ∧ (T12 x).1 = 31 := wf_35 w17 ha
  have hk22o : OB T12 x20 1 := ⟨by omega, by rw [hk22]; rfl, by omega⟩
  refine tn_getR (ci := 5) (i := 2) (n := 35) (x := x20) dX5_join_32 rfl lay_5 (by decide) fl5_47 ha rfl rfl (hx21) ?_
  refine tn_iconst dX5_join_35 ?_
  refine tn_iload_n dX5_join_36 rfl 3 rfl ?_
  refine tn_iload_n dX5_join_37 rfl 4 rfl ?_
  refine tn_callV (M := m_X5_join) (pc := 38) (ix := 143) (ci := 1) (M' := m_X1_lastOperand) (As := [.int (iI 0), .int (iI e), .int (iI l)]) (rest := []) dX5_join_38 ok_X1_lastOperand im_X1_lastOperand se_X1_lastOperand ml5_143 np_X1_lastOperand rfl rfl hk22o rfl (Nat.le_of_ble_eq_true rfl) (Nat.le_of_ble_eq_true rfl) rfl (k_X1_lastOperand (d + 2) (T := T12) (σ := σ11) (a := x20) (i := 0) (k := e) (y := l) hk22o (by decide) (by omega) (by omega) w17 ) (fun r24 T26 σ25 gt27 hp => ?_)
  obtain ⟨rfl, rfl, w29, F30⟩ := hp
  clear gt27
  have rp31 : RP σ25 a (kp + 1) := RP.frc rp19 F30 (by decide) (by decide) (by decide) (by decide) (by decide)
  show Tn _ _ 41 T12 σ25 [(4, .int (iI z2)), (0, .ref a), (1, .int (iI k)), (2, .int (iI e)), (3, .int (iI l))] [] _
  refine tn_aload_n dX5_join_41 rfl 1 rfl ?_
  refine tn_getR (ci := 5) (i := 2) (n := 35) (x := x20) dX5_join_42 rfl lay_5 (by decide) fl5_47 ha rfl rfl (rc_F F30 (Or.inl (by decide)) (by decide) (hx21)) ?_
  refine tn_iconst dX5_join_45 ?_
  refine tn_aload_n dX5_join_46 rfl 1 rfl ?_
  refine tn_getI (ci := 5) (i := 17) (n := 50) (t := σ11.2.1 50 a) dX5_join_47 rfl lay_5 (by decide) fl5_216 ha rfl rfl (rc_F F30 (Or.inl (by decide)) (by decide) (rfl)) ?_
  have g32 : ((-2147483648 : Int) ≤ σ11.2.1 50 a ∧ σ11.2.1 50 a ≤ 2147483647) := wf_50 w17 ha
  refine tn_aload_n dX5_join_50 rfl 1 rfl ?_
  refine tn_getI (ci := 5) (i := 18) (n := 51) (t := σ11.2.1 51 a) dX5_join_51 rfl lay_5 (by decide) fl5_219 ha rfl rfl (rc_F F30 (Or.inl (by decide)) (by decide) (rfl)) ?_
  have g33 : ((-2147483648 : Int) ≤ σ11.2.1 51 a ∧ σ11.2.1 51 a ≤ 2147483647) := wf_51 w17 ha
  refine tn_callV (M := m_X5_join) (pc := 54) (ix := 143) (ci := 1) (M' := m_X1_lastOperand) (As := [.int (iI 1), .int (iI (σ11.2.1 50 a)), .int (iI (σ11.2.1 51 a))]) (rest := []) dX5_join_54 ok_X1_lastOperand im_X1_lastOperand se_X1_lastOperand ml5_143 np_X1_lastOperand rfl rfl hk22o rfl (Nat.le_of_ble_eq_true rfl) (Nat.le_of_ble_eq_true rfl) rfl (k_X1_lastOperand (d + 2) (T := T12) (σ := σ25) (a := x20) (i := 1) (k := σ11.2.1 50 a) (y := σ11.2.1 51 a) hk22o (by decide) (by omega) (by omega) w29 ) (fun r34 T36 σ35 gt37 hp => ?_)
  obtain ⟨rfl, rfl, w39, F40⟩ := hp
  clear gt37
  have rp41 : RP σ35 a (kp + 1) := RP.frc rp31 F40 (by decide) (by decide) (by decide) (by decide) (by decide)
  show Tn _ _ 57 T12 σ35 [(4, .int (iI z2)), (0, .ref a), (1, .int (iI k)), (2, .int (iI e)), (3, .int (iI l))] [] _
  refine tn_aload_n dX5_join_57 rfl 1 rfl ?_
  refine tn_iconst dX5_join_58 ?_
  refine tn_putV (ci := 5) (i := 17) (n := 50) (r := false) (v := 2) tyX5 tyX5_ok nmX5 dX5_join_59 rfl lay_5 (by decide) fl5_216 rfl (tyX5_ok 17 (by decide)) rfl rfl rfl ha rfl rfl ?_
  refine tn_aload_n dX5_join_62 rfl 1 rfl ?_
  refine tn_iload dX5_join_63 0 rfl ?_
  refine tn_putV (ci := 5) (i := 18) (n := 51) (r := false) (v := z2) tyX5 tyX5_ok nmX5 dX5_join_65 rfl lay_5 (by decide) fl5_219 rfl (tyX5_ok 18 (by decide)) rfl rfl rfl ha rfl rfl ?_
  exact tn_vret rfl dX5_join_68 ⟨rfl, ((w39.put (by decide) (by decide) (fo_50 (by omega))).put (by decide) (by decide) (fo_51 (by omega))), ((((((FrC.rfl.put (by decide) (by decide)).trans (FrC.sub F18 (by decide))).trans (FrC.sub (FrC.old F30 gt13) (by decide))).trans (FrC.sub (FrC.old F40 gt13) (by decide))).put (by decide) (by decide)).put (by decide) (by decide)), (RP.up ((rp41.put (by decide)).put (by decide)) (by omega))⟩
end
section
theorem cd_X5_expression : Cond.code yX5_expression cX5_expression 5 (some .boolean) ∈ pWW := pw3 (List.mem_of_getElem? (i := 165) rfl) rfl
abbrev m_X5_expression : MT := (yX5_expression, cX5_expression, 5, (some .boolean))
theorem ok_X5_expression : pOk m_X5_expression := ⟨⟨cd_X5_expression, ini_5⟩, by decide +kernel, ⟨by decide +kernel, by decide +kernel⟩, Nat.le_of_ble_eq_true rfl⟩
theorem np_X5_expression : (parseMethodDescriptor yX5_expression.desc).map (fun d => d.parameters.length) = some 1 := by decide +kernel
theorem im_X5_expression : Cond.instanceMethod yX5_expression ∈ pWW := pw3 (List.mem_of_getElem? (i := 164) rfl) rfl
theorem se_X5_expression : Cond.selects RX5 yX5_expression yX5_expression ∈ pWW := pws (List.mem_map.mpr ⟨_, lw_pin 18 rfl, rfl⟩) rfl
theorem cd_X5_atom : Cond.code yX5_atom cX5_atom 2 (some .boolean) ∈ pWW := pw3 (List.mem_of_getElem? (i := 181) rfl) rfl
abbrev m_X5_atom : MT := (yX5_atom, cX5_atom, 2, (some .boolean))
theorem ok_X5_atom : pOk m_X5_atom := ⟨⟨cd_X5_atom, ini_5⟩, by decide +kernel, ⟨by decide +kernel, by decide +kernel⟩, Nat.le_of_ble_eq_true rfl⟩
theorem np_X5_atom : (parseMethodDescriptor yX5_atom.desc).map (fun d => d.parameters.length) = some 1 := by decide +kernel
theorem im_X5_atom : Cond.instanceMethod yX5_atom ∈ pWW := pw3 (List.mem_of_getElem? (i := 180) rfl) rfl
theorem se_X5_atom : Cond.selects RX5 yX5_atom yX5_atom ∈ pWW := pws (List.mem_map.mpr ⟨_, lw_pin 22 rfl, rfl⟩) rfl
theorem ml5_176 : Cond.methodLink RX5 176 yX5_register ∈ pWW := pw3 (List.mem_of_getElem? (i := 109) rfl) rfl
theorem ml5_213 : Cond.methodLink RX5 213 yX5_expression ∈ pWW := pw3 (List.mem_of_getElem? (i := 162) rfl) rfl
theorem ml5_102 : Cond.methodLink RX5 102 yX5_taken ∈ pWW := pw3 (List.mem_of_getElem? (i := 93) rfl) rfl
theorem dX5_atom_0 : decode cX5_atom 0 = .ok (.aload_n 0, 1) := by decide +kernel
theorem dX5_atom_1 : decode cX5_atom 1 = .ok (.getfield 12, 3) := by decide +kernel
theorem dX5_atom_4 : decode cX5_atom 4 = .ok (.getfield 71, 3) := by decide +kernel
theorem dX5_atom_7 : decode cX5_atom 7 = .ok (.bipush 40, 2) := by decide +kernel
theorem dX5_atom_9 : decode cX5_atom 9 = .ok (.if_icmp .ne 35, 3) := by decide +kernel
theorem dX5_atom_44 : decode cX5_atom 44 = .ok (.aload_n 0, 1) := by decide +kernel
theorem dX5_atom_45 : decode cX5_atom 45 = .ok (.getfield 12, 3) := by decide +kernel
theorem dX5_atom_48 : decode cX5_atom 48 = .ok (.getfield 71, 3) := by decide +kernel
theorem dX5_atom_51 : decode cX5_atom 51 = .ok (.sipush 257, 3) := by decide +kernel
theorem dX5_atom_54 : decode cX5_atom 54 = .ok (.if_icmp .ne 22, 3) := by decide +kernel
theorem dX5_atom_76 : decode cX5_atom 76 = .ok (.aload_n 0, 1) := by decide +kernel
theorem dX5_atom_77 : decode cX5_atom 77 = .ok (.getfield 12, 3) := by decide +kernel
theorem dX5_atom_80 : decode cX5_atom 80 = .ok (.getfield 71, 3) := by decide +kernel
theorem dX5_atom_83 : decode cX5_atom 83 = .ok (.sipush 256, 3) := by decide +kernel
theorem dX5_atom_86 : decode cX5_atom 86 = .ok (.if_icmp .ne 19, 3) := by decide +kernel
theorem dX5_atom_105 : decode cX5_atom 105 = .ok (.aload_n 0, 1) := by decide +kernel
theorem dX5_atom_106 : decode cX5_atom 106 = .ok (.invokevirtual 90, 3) := by decide +kernel
theorem dX5_atom_109 : decode cX5_atom 109 = .ok (.ireturn, 1) := by decide +kernel
theorem dX5_atom_89 : decode cX5_atom 89 = .ok (.aload_n 0, 1) := by decide +kernel
theorem dX5_atom_90 : decode cX5_atom 90 = .ok (.iconst 2, 1) := by decide +kernel
theorem dX5_atom_91 : decode cX5_atom 91 = .ok (.putfield 216, 3) := by decide +kernel
theorem dX5_atom_94 : decode cX5_atom 94 = .ok (.aload_n 0, 1) := by decide +kernel
theorem dX5_atom_95 : decode cX5_atom 95 = .ok (.aload_n 0, 1) := by decide +kernel
theorem dX5_atom_96 : decode cX5_atom 96 = .ok (.invokevirtual 176, 3) := by decide +kernel
theorem dX5_atom_99 : decode cX5_atom 99 = .ok (.putfield 219, 3) := by decide +kernel
theorem dX5_atom_102 : decode cX5_atom 102 = .ok (.goto 8, 3) := by decide +kernel
theorem dX5_atom_110 : decode cX5_atom 110 = .ok (.aload_n 0, 1) := by decide +kernel
theorem dX5_atom_111 : decode cX5_atom 111 = .ok (.getfield 12, 3) := by decide +kernel
theorem dX5_atom_114 : decode cX5_atom 114 = .ok (.invokevirtual 93, 3) := by decide +kernel
theorem dX5_atom_117 : decode cX5_atom 117 = .ok (.iconst 1, 1) := by decide +kernel
theorem dX5_atom_118 : decode cX5_atom 118 = .ok (.ireturn, 1) := by decide +kernel
theorem dX5_atom_57 : decode cX5_atom 57 = .ok (.aload_n 0, 1) := by decide +kernel
theorem dX5_atom_58 : decode cX5_atom 58 = .ok (.iconst 1, 1) := by decide +kernel
theorem dX5_atom_59 : decode cX5_atom 59 = .ok (.putfield 216, 3) := by decide +kernel
theorem dX5_atom_62 : decode cX5_atom 62 = .ok (.aload_n 0, 1) := by decide +kernel
theorem dX5_atom_63 : decode cX5_atom 63 = .ok (.aload_n 0, 1) := by decide +kernel
theorem dX5_atom_64 : decode cX5_atom 64 = .ok (.getfield 12, 3) := by decide +kernel
theorem dX5_atom_67 : decode cX5_atom 67 = .ok (.getfield 96, 3) := by decide +kernel
theorem dX5_atom_70 : decode cX5_atom 70 = .ok (.putfield 219, 3) := by decide +kernel
theorem dX5_atom_73 : decode cX5_atom 73 = .ok (.goto 37, 3) := by decide +kernel
theorem dX5_atom_12 : decode cX5_atom 12 = .ok (.aload_n 0, 1) := by decide +kernel
theorem dX5_atom_13 : decode cX5_atom 13 = .ok (.getfield 12, 3) := by decide +kernel
theorem dX5_atom_16 : decode cX5_atom 16 = .ok (.invokevirtual 93, 3) := by decide +kernel
theorem dX5_atom_19 : decode cX5_atom 19 = .ok (.aload_n 0, 1) := by decide +kernel
theorem dX5_atom_20 : decode cX5_atom 20 = .ok (.iload_n 1, 1) := by decide +kernel
theorem dX5_atom_21 : decode cX5_atom 21 = .ok (.iconst 1, 1) := by decide +kernel
theorem dX5_atom_22 : decode cX5_atom 22 = .ok (.iadd, 1) := by decide +kernel
theorem dX5_atom_23 : decode cX5_atom 23 = .ok (.invokevirtual 213, 3) := by decide +kernel
theorem dX5_atom_26 : decode cX5_atom 26 = .ok (.ifCond .eq 16, 3) := by decide +kernel
theorem dX5_atom_42 : decode cX5_atom 42 = .ok (.iconst 0, 1) := by decide +kernel
theorem dX5_atom_43 : decode cX5_atom 43 = .ok (.ireturn, 1) := by decide +kernel
theorem dX5_atom_29 : decode cX5_atom 29 = .ok (.aload_n 0, 1) := by decide +kernel
theorem dX5_atom_30 : decode cX5_atom 30 = .ok (.bipush 41, 2) := by decide +kernel
theorem dX5_atom_32 : decode cX5_atom 32 = .ok (.invokevirtual 102, 3) := by decide +kernel
theorem dX5_atom_35 : decode cX5_atom 35 = .ok (.ifCond .eq 7, 3) := by decide +kernel
theorem dX5_atom_38 : decode cX5_atom 38 = .ok (.iconst 1, 1) := by decide +kernel
theorem dX5_atom_39 : decode cX5_atom 39 = .ok (.goto 4, 3) := by decide +kernel
set_option maxRecDepth 20000 in
theorem k_X5_atom (d : Nat) {T : CT} {σ : MS} {a : Nat} {dp : Int} {kp : Int} {lv : Nat} (ha : OB T a 5) (h_dp : -2147483648 ≤ dp ∧ dp ≤ 2147483647) (hw : WT T σ) (hex : ∀ (d : Nat) {T : CT} {σ : MS} {a : Nat} {dp : Int} {kp : Int} (ha : OB T a 5) (h_dp : -2147483648 ≤ dp ∧ dp ≤ 2147483647) (hw : WT T σ) (hdp : 0 ≤ dp ∧ dp ≤ 9) (hlv : 9 ≤ dp + (lv : Int)) (hkp : kp ≤ 150) (hrp : RP σ a kp), Tn (d + 5 * lv + 10) m_X5_expression 0 T σ [(0, .ref a), (1, .int (iI dp))] [] (fun ro T2 σ2 => ∃ v : Int, ro = some (.int (iI v)) ∧ WT T2 σ2 ∧ FrC T [5, 6, 7, 43, 44, 47, 50, 51, 84, 85, 86, 87, 521] σ σ2 ∧ (v = 0 ∨ v = 1) ∧ (RP σ2 a (kp - 4 * v)))) (hdp : 0 ≤ dp ∧ dp ≤ 8) (hlv : 8 ≤ dp + (lv : Int)) (hkp : kp ≤ 150) (hrp : RP σ a kp) : Tn (d + 5 * lv + 11) m_X5_atom 0 T σ [(0, .ref a), (1, .int (iI dp))] [] (fun ro T2 σ2 => ∃ v : Int, ro = some (.int (iI v)) ∧ WT T2 σ2 ∧ FrC T [5, 6, 7, 43, 44, 47, 50, 51, 84, 85, 86, 87, 521] σ σ2 ∧ (v = 0 ∨ v = 1) ∧ (RP σ2 a (kp - 4 * v))) := by
  refine tn_aload_n dX5_atom_0 rfl 0 rfl ?_
  obtain ⟨x1, hx2, hk3⟩ : ∃ x : Nat, σ.2.1 33 a = (x : Int) ∧ (T x).1 = 39 := wf_33 hw ha
  have hk3o : OB T x1 9 := ⟨by omega, by rw [hk3]; rfl, by omega⟩
  refine tn_getR (ci := 5) (i := 0) (n := 33) (x := x1) dX5_atom_1 rfl lay_5 (by decide) fl5_12 ha rfl rfl (hx2) ?_
  refine tn_getI (ci := 9) (i := 4) (n := 85) (t := σ.2.1 85 x1) dX5_atom_4 rfl lay_9 (by decide) fl5_71 hk3o rfl rfl (rfl) ?_
  have g5 : ((-2147483648 : Int) ≤ σ.2.1 85 x1 ∧ σ.2.1 85 x1 ≤ 2147483647) := wf_85 hw hk3o
  refine tn_bipush dX5_atom_7 (by decide) ?_
  refine tn_icmp_ne (tgt := 44) dX5_atom_9 (by decide) ⟨by omega, by omega⟩ ⟨by decide, by decide⟩ (fun h6 => ?_) (fun h6 => ?_)
  · refine tn_aload_n dX5_atom_44 rfl 0 rfl ?_
    refine tn_getR (ci := 5) (i := 0) (n := 33) (x := x1) dX5_atom_45 rfl lay_5 (by decide) fl5_12 ha rfl rfl (hx2) ?_
    refine tn_getI (ci := 9) (i := 4) (n := 85) (t := σ.2.1 85 x1) dX5_atom_48 rfl lay_9 (by decide) fl5_71 hk3o rfl rfl (rfl) ?_
    refine tn_sipush dX5_atom_51 (by decide) ?_
    refine tn_icmp_ne (tgt := 76) dX5_atom_54 (by decide) ⟨by omega, by omega⟩ ⟨by decide, by decide⟩ (fun h7 => ?_) (fun h7 => ?_)
    · refine tn_aload_n dX5_atom_76 rfl 0 rfl ?_
      refine tn_getR (ci := 5) (i := 0) (n := 33) (x := x1) dX5_atom_77 rfl lay_5 (by decide) fl5_12 ha rfl rfl (hx2) ?_
      refine tn_getI (ci := 9) (i := 4) (n := 85) (t := σ.2.1 85 x1) dX5_atom_80 rfl lay_9 (by decide) fl5_71 hk3o rfl rfl (rfl) ?_
      refine tn_sipush dX5_atom_83 (by decide) ?_
      refine tn_icmp_ne (tgt := 105) dX5_atom_86 (by decide) ⟨by omega, by omega⟩ ⟨by decide, by decide⟩ (fun h8 => ?_) (fun h8 => ?_)
      · refine tn_aload_n dX5_atom_105 rfl 0 rfl ?_
        refine tn_callV (M := m_X5_atom) (pc := 106) (ix := 90) (ci := 5) (M' := m_X5_refuse) (As := []) (rest := []) dX5_atom_106 ok_X5_refuse im_X5_refuse se_X5_refuse ml5_90 np_X5_refuse rfl rfl ha rfl (Nat.le_of_ble_eq_true rfl) (Nat.le_of_ble_eq_true rfl) rfl (k_X5_refuse (d + 5 * lv + 9) (T := T) (σ := σ) (a := a) ha hw ) (fun r9 T11 σ10 gt12 hp => ?_)
        obtain ⟨v15, rfl, rfl, w16, F17, f13, f14⟩ := hp
        clear gt12
        have rp18 : RP σ10 a (kp) := RP.frc hrp F17 (by decide) (by decide) (by decide) (by decide) (by decide)
        show Tn _ _ 109 T σ10 [(0, .ref a), (1, .int (iI dp))] [.int (iI v15)] _
        exact tn_zret (v := v15) rfl (by omega) dX5_atom_109 ⟨_, rfl, w16, (FrC.rfl.trans (FrC.sub F17 (by decide))), by omega, (RP.up rp18 (by omega))⟩
      · refine tn_aload_n dX5_atom_89 rfl 0 rfl ?_
        refine tn_iconst dX5_atom_90 ?_
        refine tn_putV (ci := 5) (i := 17) (n := 50) (r := false) (v := 2) tyX5 tyX5_ok nmX5 dX5_atom_91 rfl lay_5 (by decide) fl5_216 rfl (tyX5_ok 17 (by decide)) rfl rfl rfl ha rfl rfl ?_
        refine tn_aload_n dX5_atom_94 rfl 0 rfl ?_
        refine tn_aload_n dX5_atom_95 rfl 0 rfl ?_
        refine tn_callV (M := m_X5_atom) (pc := 96) (ix := 176) (ci := 5) (M' := m_X5_register) (As := []) (rest := [.ref a]) dX5_atom_96 ok_X5_register im_X5_register se_X5_register ml5_176 np_X5_register rfl rfl ha rfl (Nat.le_of_ble_eq_true rfl) (Nat.le_of_ble_eq_true rfl) rfl (k_X5_register (d + 5 * lv + 8) (T := T) (σ := (sA 50 a (2) σ)) (a := a) ha (hw.put (by decide) (by decide) (fo_50 (by omega))) ) (fun r19 T21 σ20 gt22 hp => ?_)
        obtain ⟨v24, rfl, rfl, w25, F26, f23⟩ := hp
        clear gt22
        have rp27 : RP σ20 a (kp) := RP.frc (hrp.put (by decide)) F26 (by decide) (by decide) (by decide) (by decide) (by decide)
        show Tn _ _ 99 T σ20 [(0, .ref a), (1, .int (iI dp))] [.int (iI v24), .ref a] _
        refine tn_putV (ci := 5) (i := 18) (n := 51) (r := false) (v := v24) tyX5 tyX5_ok nmX5 dX5_atom_99 rfl lay_5 (by decide) fl5_219 rfl (tyX5_ok 18 (by decide)) rfl rfl rfl ha rfl rfl ?_
        refine tn_goto (tgt := 110) dX5_atom_102 (by decide) ?_
        refine tn_aload_n dX5_atom_110 rfl 0 rfl ?_
        refine tn_getR (ci := 5) (i := 0) (n := 33) (x := x1) dX5_atom_111 rfl lay_5 (by decide) fl5_12 ha rfl rfl (rc_o (by decide) (rc_F F26 (Or.inl (by decide)) (by decide) (rc_o (by decide) (hx2)))) ?_
        have q32 : (sA 51 a (v24) σ20).2.1 84 x1 = σ.2.1 84 x1 := rc_o (by decide) (rc_F F26 (Or.inl (by decide)) (by decide) (rc_o (by decide) (rfl)))
        refine tn_callV (M := m_X5_atom) (pc := 114) (ix := 93) (ci := 9) (M' := m_X9_next) (As := []) (rest := []) dX5_atom_114 ok_X9_next im_X9_next se_X9_next ml5_93 np_X9_next rfl rfl hk3o rfl (Nat.le_of_ble_eq_true rfl) (Nat.le_of_ble_eq_true rfl) rfl (k_X9_next (d + 5 * lv + 9) (T := T) (σ := (sA 51 a (v24) σ20)) (a := x1) hk3o (w25.put (by decide) (by decide) (fo_51 (by omega))) (RP.tk (rp27.put (by decide)) (w25.put (by decide) (by decide) (fo_51 (by omega))) ha (rc_o (by decide) (rc_F F26 (Or.inl (by decide)) (by decide) (rc_o (by decide) (hx2)))))) (fun r28 T30 σ29 gt31 hp => ?_)
        obtain ⟨rfl, rfl, w37, F38, f33, f34, f35⟩ := hp
        clear gt31
        have rp39 : RP σ29 a (kp - 4) := RP.next4 (rp27.put (by decide)) (rc_o (by decide) (rc_F F26 (Or.inl (by decide)) (by decide) (rc_o (by decide) (hx2)))) F38 (by decide) (by decide) (by decide) f33 f35 (by rw [show (sA 51 a (v24) σ20).2.1 85 x1 = σ.2.1 85 x1 from rc_o (by decide) (rc_F F26 (Or.inl (by decide)) (by decide) (rc_o (by decide) (rfl)))]; omega)
        show Tn _ _ 117 T σ29 [(0, .ref a), (1, .int (iI dp))] [] _
        refine tn_iconst dX5_atom_117 ?_
        exact tn_zret (v := 1) rfl (by decide) dX5_atom_118 ⟨_, rfl, w37, ((((FrC.rfl.put (by decide) (by decide)).trans (FrC.sub F26 (by decide))).put (by decide) (by decide)).trans (FrC.sub F38 (by decide))), by omega, (RP.up rp39 (by omega))⟩
    · refine tn_aload_n dX5_atom_57 rfl 0 rfl ?_
      refine tn_iconst dX5_atom_58 ?_
      refine tn_putV (ci := 5) (i := 17) (n := 50) (r := false) (v := 1) tyX5 tyX5_ok nmX5 dX5_atom_59 rfl lay_5 (by decide) fl5_216 rfl (tyX5_ok 17 (by decide)) rfl rfl rfl ha rfl rfl ?_
      refine tn_aload_n dX5_atom_62 rfl 0 rfl ?_
      refine tn_aload_n dX5_atom_63 rfl 0 rfl ?_
      refine tn_getR (ci := 5) (i := 0) (n := 33) (x := x1) dX5_atom_64 rfl lay_5 (by decide) fl5_12 ha rfl rfl (rc_o (by decide) (hx2)) ?_
      refine tn_getI (ci := 9) (i := 5) (n := 86) (t := σ.2.1 86 x1) dX5_atom_67 rfl lay_9 (by decide) fl5_96 hk3o rfl rfl (rc_o (by decide) (rfl)) ?_
      have g40 : ((-2147483648 : Int) ≤ σ.2.1 86 x1 ∧ σ.2.1 86 x1 ≤ 2147483647) := wf_86 hw hk3o
      refine tn_putV (ci := 5) (i := 18) (n := 51) (r := false) (v := σ.2.1 86 x1) tyX5 tyX5_ok nmX5 dX5_atom_70 rfl lay_5 (by decide) fl5_219 rfl (tyX5_ok 18 (by decide)) rfl rfl rfl ha rfl rfl ?_
      refine tn_goto (tgt := 110) dX5_atom_73 (by decide) ?_
      refine tn_aload_n dX5_atom_110 rfl 0 rfl ?_
      refine tn_getR (ci := 5) (i := 0) (n := 33) (x := x1) dX5_atom_111 rfl lay_5 (by decide) fl5_12 ha rfl rfl (rc_o (by decide) (rc_o (by decide) (hx2))) ?_
      have q45 : (sA 51 a (σ.2.1 86 x1) (sA 50 a (1) σ)).2.1 84 x1 = σ.2.1 84 x1 := rc_o (by decide) (rc_o (by decide) (rfl))
      refine tn_callV (M := m_X5_atom) (pc := 114) (ix := 93) (ci := 9) (M' := m_X9_next) (As := []) (rest := []) dX5_atom_114 ok_X9_next im_X9_next se_X9_next ml5_93 np_X9_next rfl rfl hk3o rfl (Nat.le_of_ble_eq_true rfl) (Nat.le_of_ble_eq_true rfl) rfl (k_X9_next (d + 5 * lv + 9) (T := T) (σ := (sA 51 a (σ.2.1 86 x1) (sA 50 a (1) σ))) (a := x1) hk3o ((hw.put (by decide) (by decide) (fo_50 (by omega))).put (by decide) (by decide) (fo_51 (by omega))) (RP.tk ((hrp.put (by decide)).put (by decide)) ((hw.put (by decide) (by decide) (fo_50 (by omega))).put (by decide) (by decide) (fo_51 (by omega))) ha (rc_o (by decide) (rc_o (by decide) (hx2))))) (fun r41 T43 σ42 gt44 hp => ?_)
      obtain ⟨rfl, rfl, w50, F51, f46, f47, f48⟩ := hp
      clear gt44
      have rp52 : RP σ42 a (kp - 4) := RP.next4 ((hrp.put (by decide)).put (by decide)) (rc_o (by decide) (rc_o (by decide) (hx2))) F51 (by decide) (by decide) (by decide) f46 f48 (by rw [show (sA 51 a (σ.2.1 86 x1) (sA 50 a (1) σ)).2.1 85 x1 = σ.2.1 85 x1 from rc_o (by decide) (rc_o (by decide) (rfl))]; omega)
      show Tn _ _ 117 T σ42 [(0, .ref a), (1, .int (iI dp))] [] _
      refine tn_iconst dX5_atom_117 ?_
      exact tn_zret (v := 1) rfl (by decide) dX5_atom_118 ⟨_, rfl, w50, (((FrC.rfl.put (by decide) (by decide)).put (by decide) (by decide)).trans (FrC.sub F51 (by decide))), by omega, (RP.up rp52 (by omega))⟩
  · refine tn_aload_n dX5_atom_12 rfl 0 rfl ?_
    refine tn_getR (ci := 5) (i := 0) (n := 33) (x := x1) dX5_atom_13 rfl lay_5 (by decide) fl5_12 ha rfl rfl (hx2) ?_
    refine tn_callV (M := m_X5_atom) (pc := 16) (ix := 93) (ci := 9) (M' := m_X9_next) (As := []) (rest := []) dX5_atom_16 ok_X9_next im_X9_next se_X9_next ml5_93 np_X9_next rfl rfl hk3o rfl (Nat.le_of_ble_eq_true rfl) (Nat.le_of_ble_eq_true rfl) rfl (k_X9_next (d + 5 * lv + 9) (T := T) (σ := σ) (a := x1) hk3o hw (RP.tk hrp hw ha (hx2))) (fun r53 T55 σ54 gt56 hp => ?_)
    obtain ⟨rfl, rfl, w61, F62, f57, f58, f59⟩ := hp
    clear gt56
    have rp63 : RP σ54 a (kp - 4) := RP.next4 hrp (hx2) F62 (by decide) (by decide) (by decide) f57 f59 (by rw [show σ.2.1 85 x1 = σ.2.1 85 x1 from rfl]; omega)
    show Tn _ _ 19 T σ54 [(0, .ref a), (1, .int (iI dp))] [] _
    refine tn_aload_n dX5_atom_19 rfl 0 rfl ?_
    refine tn_iload_n dX5_atom_20 rfl 1 rfl ?_
    refine tn_iconst dX5_atom_21 ?_
    refine tn_iadd dX5_atom_22 ?_
    refine tn_callV (M := m_X5_atom) (pc := 23) (ix := 213) (ci := 5) (M' := m_X5_expression) (As := [.int (iI (dp + 1))]) (rest := []) dX5_atom_23 ok_X5_expression im_X5_expression se_X5_expression ml5_213 np_X5_expression rfl rfl ha rfl (Nat.le_of_ble_eq_true rfl) (Nat.le_of_ble_eq_true rfl) rfl (hex (d) (T := T) (σ := σ54) (a := a) (dp := dp + 1) (kp := kp - 4) ha (by omega) w61 (by omega) (by omega) (by omega) rp63) (fun r64 T66 σ65 gt67 hp => ?_)
    obtain ⟨v70, rfl, w71, F72, f68, f69⟩ := hp
    replace ha : OB T66 a 5 := gt67.ob ha
    have rp74 : RP σ65 a (kp - 4 * v70 - 4) := RP.up f69 (by omega)
    show Tn _ _ 26 T66 σ65 [(0, .ref a), (1, .int (iI dp))] [.int (iI v70)] _
    refine tn_if_eq (tgt := 42) dX5_atom_26 (by decide) ⟨by omega, by omega⟩ (fun h75 => ?_) (fun h75 => ?_)
    · refine tn_iconst dX5_atom_42 ?_
      exact tn_zret (v := 0) rfl (by decide) dX5_atom_43 ⟨_, rfl, w71, ((FrC.rfl.trans (FrC.sub F62 (by decide))).trans (FrC.sub F72 (by decide))), by omega, (RP.up rp74 (by omega))⟩
    · refine tn_aload_n dX5_atom_29 rfl 0 rfl ?_
      refine tn_bipush dX5_atom_30 (by decide) ?_
      refine tn_callV (M := m_X5_atom) (pc := 32) (ix := 102) (ci := 5) (M' := m_X5_taken) (As := [.int (iI 41)]) (rest := []) dX5_atom_32 ok_X5_taken im_X5_taken se_X5_taken ml5_102 np_X5_taken rfl rfl ha rfl (Nat.le_of_ble_eq_true rfl) (Nat.le_of_ble_eq_true rfl) rfl (k_X5_taken (d + 5 * lv + 8) (T := T66) (σ := σ65) (a := a) (s := 41) (kp := kp - 4 * v70 - 4) ha (by decide) w71 (by omega) (by omega) rp74) (fun r76 T78 σ77 gt79 hp => ?_)
      obtain ⟨v82, rfl, rfl, w83, F84, f80, f81⟩ := hp
      clear gt79
      have rp86 : RP σ77 a (kp - 4 * v70 - 4 * v82 - 4) := RP.up f81 (by omega)
      show Tn _ _ 35 T66 σ77 [(0, .ref a), (1, .int (iI dp))] [.int (iI v82)] _
      refine tn_if_eq (tgt := 42) dX5_atom_35 (by decide) ⟨by omega, by omega⟩ (fun h87 => ?_) (fun h87 => ?_)
      · refine tn_iconst dX5_atom_42 ?_
        exact tn_zret (v := 0) rfl (by decide) dX5_atom_43 ⟨_, rfl, w83, (((FrC.rfl.trans (FrC.sub F62 (by decide))).trans (FrC.sub F72 (by decide))).trans (FrC.sub (FrC.old F84 gt67) (by decide))), by omega, (RP.up rp86 (by omega))⟩
      · refine tn_iconst dX5_atom_38 ?_
        refine tn_goto (tgt := 43) dX5_atom_39 (by decide) ?_
        exact tn_zret (v := 1) rfl (by decide) dX5_atom_43 ⟨_, rfl, w83, (((FrC.rfl.trans (FrC.sub F62 (by decide))).trans (FrC.sub F72 (by decide))).trans (FrC.sub (FrC.old F84 gt67) (by decide))), by omega, (RP.up rp86 (by omega))⟩
end
section
theorem cd_X5_factor : Cond.code yX5_factor cX5_factor 2 (some .boolean) ∈ pWW := pw3 (List.mem_of_getElem? (i := 177) rfl) rfl
abbrev m_X5_factor : MT := (yX5_factor, cX5_factor, 2, (some .boolean))
theorem ok_X5_factor : pOk m_X5_factor := ⟨⟨cd_X5_factor, ini_5⟩, by decide +kernel, ⟨by decide +kernel, by decide +kernel⟩, Nat.le_of_ble_eq_true rfl⟩
theorem np_X5_factor : (parseMethodDescriptor yX5_factor.desc).map (fun d => d.parameters.length) = some 1 := by decide +kernel
theorem im_X5_factor : Cond.instanceMethod yX5_factor ∈ pWW := pw3 (List.mem_of_getElem? (i := 176) rfl) rfl
theorem se_X5_factor : Cond.selects RX5 yX5_factor yX5_factor ∈ pWW := pws (List.mem_map.mpr ⟨_, lw_pin 21 rfl, rfl⟩) rfl
theorem ml5_253 : Cond.methodLink RX5 253 yX5_atom ∈ pWW := pw3 (List.mem_of_getElem? (i := 178) rfl) rfl
theorem ml5_244 : Cond.methodLink RX5 244 yX5_join ∈ pWW := pw3 (List.mem_of_getElem? (i := 182) rfl) rfl
theorem dX5_factor_0 : decode cX5_factor 0 = .ok (.aload_n 0, 1) := by decide +kernel
theorem dX5_factor_1 : decode cX5_factor 1 = .ok (.getfield 12, 3) := by decide +kernel
theorem dX5_factor_4 : decode cX5_factor 4 = .ok (.getfield 71, 3) := by decide +kernel
theorem dX5_factor_7 : decode cX5_factor 7 = .ok (.bipush 45, 2) := by decide +kernel
theorem dX5_factor_9 : decode cX5_factor 9 = .ok (.if_icmp .eq 9, 3) := by decide +kernel
theorem dX5_factor_18 : decode cX5_factor 18 = .ok (.aload_n 0, 1) := by decide +kernel
theorem dX5_factor_19 : decode cX5_factor 19 = .ok (.getfield 12, 3) := by decide +kernel
theorem dX5_factor_22 : decode cX5_factor 22 = .ok (.invokevirtual 93, 3) := by decide +kernel
theorem dX5_factor_25 : decode cX5_factor 25 = .ok (.aload_n 0, 1) := by decide +kernel
theorem dX5_factor_26 : decode cX5_factor 26 = .ok (.iload_n 1, 1) := by decide +kernel
theorem dX5_factor_27 : decode cX5_factor 27 = .ok (.invokevirtual 253, 3) := by decide +kernel
theorem dX5_factor_30 : decode cX5_factor 30 = .ok (.ifCond .ne 5, 3) := by decide +kernel
theorem dX5_factor_35 : decode cX5_factor 35 = .ok (.aload_n 0, 1) := by decide +kernel
theorem dX5_factor_36 : decode cX5_factor 36 = .ok (.iconst 2, 1) := by decide +kernel
theorem dX5_factor_37 : decode cX5_factor 37 = .ok (.iconst 1, 1) := by decide +kernel
theorem dX5_factor_38 : decode cX5_factor 38 = .ok (.iconst 0, 1) := by decide +kernel
theorem dX5_factor_39 : decode cX5_factor 39 = .ok (.invokevirtual 244, 3) := by decide +kernel
theorem dX5_factor_42 : decode cX5_factor 42 = .ok (.iconst 1, 1) := by decide +kernel
theorem dX5_factor_43 : decode cX5_factor 43 = .ok (.ireturn, 1) := by decide +kernel
theorem dX5_factor_33 : decode cX5_factor 33 = .ok (.iconst 0, 1) := by decide +kernel
theorem dX5_factor_34 : decode cX5_factor 34 = .ok (.ireturn, 1) := by decide +kernel
theorem dX5_factor_12 : decode cX5_factor 12 = .ok (.aload_n 0, 1) := by decide +kernel
theorem dX5_factor_13 : decode cX5_factor 13 = .ok (.iload_n 1, 1) := by decide +kernel
theorem dX5_factor_14 : decode cX5_factor 14 = .ok (.invokevirtual 253, 3) := by decide +kernel
theorem dX5_factor_17 : decode cX5_factor 17 = .ok (.ireturn, 1) := by decide +kernel
set_option maxRecDepth 20000 in
theorem k_X5_factor (d : Nat) {T : CT} {σ : MS} {a : Nat} {dp : Int} {kp : Int} {lv : Nat} (ha : OB T a 5) (h_dp : -2147483648 ≤ dp ∧ dp ≤ 2147483647) (hw : WT T σ) (hex : ∀ (d : Nat) {T : CT} {σ : MS} {a : Nat} {dp : Int} {kp : Int} (ha : OB T a 5) (h_dp : -2147483648 ≤ dp ∧ dp ≤ 2147483647) (hw : WT T σ) (hdp : 0 ≤ dp ∧ dp ≤ 9) (hlv : 9 ≤ dp + (lv : Int)) (hkp : kp ≤ 150) (hrp : RP σ a kp), Tn (d + 5 * lv + 10) m_X5_expression 0 T σ [(0, .ref a), (1, .int (iI dp))] [] (fun ro T2 σ2 => ∃ v : Int, ro = some (.int (iI v)) ∧ WT T2 σ2 ∧ FrC T [5, 6, 7, 43, 44, 47, 50, 51, 84, 85, 86, 87, 521] σ σ2 ∧ (v = 0 ∨ v = 1) ∧ (RP σ2 a (kp - 4 * v)))) (hdp : 0 ≤ dp ∧ dp ≤ 8) (hlv : 8 ≤ dp + (lv : Int)) (hkp : kp ≤ 150) (hrp : RP σ a kp) : Tn (d + 5 * lv + 12) m_X5_factor 0 T σ [(0, .ref a), (1, .int (iI dp))] [] (fun ro T2 σ2 => ∃ v : Int, ro = some (.int (iI v)) ∧ WT T2 σ2 ∧ FrC T [5, 6, 7, 43, 44, 47, 50, 51, 84, 85, 86, 87, 521] σ σ2 ∧ (v = 0 ∨ v = 1) ∧ (RP σ2 a (kp - 4 * v))) := by
  refine tn_aload_n dX5_factor_0 rfl 0 rfl ?_
  obtain ⟨x1, hx2, hk3⟩ : ∃ x : Nat, σ.2.1 33 a = (x : Int) ∧ (T x).1 = 39 := wf_33 hw ha
  have hk3o : OB T x1 9 := ⟨by omega, by rw [hk3]; rfl, by omega⟩
  refine tn_getR (ci := 5) (i := 0) (n := 33) (x := x1) dX5_factor_1 rfl lay_5 (by decide) fl5_12 ha rfl rfl (hx2) ?_
  refine tn_getI (ci := 9) (i := 4) (n := 85) (t := σ.2.1 85 x1) dX5_factor_4 rfl lay_9 (by decide) fl5_71 hk3o rfl rfl (rfl) ?_
  have g5 : ((-2147483648 : Int) ≤ σ.2.1 85 x1 ∧ σ.2.1 85 x1 ≤ 2147483647) := wf_85 hw hk3o
  refine tn_bipush dX5_factor_7 (by decide) ?_
  refine tn_icmp_eq (tgt := 18) dX5_factor_9 (by decide) ⟨by omega, by omega⟩ ⟨by decide, by decide⟩ (fun h6 => ?_) (fun h6 => ?_)
  · refine tn_aload_n dX5_factor_18 rfl 0 rfl ?_
    refine tn_getR (ci := 5) (i := 0) (n := 33) (x := x1) dX5_factor_19 rfl lay_5 (by decide) fl5_12 ha rfl rfl (hx2) ?_
    refine tn_callV (M := m_X5_factor) (pc := 22) (ix := 93) (ci := 9) (M' := m_X9_next) (As := []) (rest := []) dX5_factor_22 ok_X9_next im_X9_next se_X9_next ml5_93 np_X9_next rfl rfl hk3o rfl (Nat.le_of_ble_eq_true rfl) (Nat.le_of_ble_eq_true rfl) rfl (k_X9_next (d + 5 * lv + 10) (T := T) (σ := σ) (a := x1) hk3o hw (RP.tk hrp hw ha (hx2))) (fun r7 T9 σ8 gt10 hp => ?_)
    obtain ⟨rfl, rfl, w15, F16, f11, f12, f13⟩ := hp
    clear gt10
    have rp17 : RP σ8 a (kp - 4) := RP.next4 hrp (hx2) F16 (by decide) (by decide) (by decide) f11 f13 (by rw [show σ.2.1 85 x1 = σ.2.1 85 x1 from rfl]; omega)
    show Tn _ _ 25 T σ8 [(0, .ref a), (1, .int (iI dp))] [] _
    refine tn_aload_n dX5_factor_25 rfl 0 rfl ?_
    refine tn_iload_n dX5_factor_26 rfl 1 rfl ?_
    refine tn_callV (M := m_X5_factor) (pc := 27) (ix := 253) (ci := 5) (M' := m_X5_atom) (As := [.int (iI dp)]) (rest := []) dX5_factor_27 ok_X5_atom im_X5_atom se_X5_atom ml5_253 np_X5_atom rfl rfl ha rfl (Nat.le_of_ble_eq_true rfl) (Nat.le_of_ble_eq_true rfl) rfl (k_X5_atom (d) (T := T) (σ := σ8) (a := a) (dp := dp) (kp := kp - 4) (lv := lv) ha (by omega) w15 hex (by omega) (by omega) (by omega) rp17) (fun r18 T20 σ19 gt21 hp => ?_)
    obtain ⟨v24, rfl, w25, F26, f22, f23⟩ := hp
    replace ha : OB T20 a 5 := gt21.ob ha
    have rp28 : RP σ19 a (kp - 4 * v24 - 4) := RP.up f23 (by omega)
    show Tn _ _ 30 T20 σ19 [(0, .ref a), (1, .int (iI dp))] [.int (iI v24)] _
    refine tn_if_ne (tgt := 35) dX5_factor_30 (by decide) ⟨by omega, by omega⟩ (fun h29 => ?_) (fun h29 => ?_)
    · refine tn_aload_n dX5_factor_35 rfl 0 rfl ?_
      refine tn_iconst dX5_factor_36 ?_
      refine tn_iconst dX5_factor_37 ?_
      refine tn_iconst dX5_factor_38 ?_
      refine tn_callV (M := m_X5_factor) (pc := 39) (ix := 244) (ci := 5) (M' := m_X5_join) (As := [.int (iI 2), .int (iI 1), .int (iI 0)]) (rest := []) dX5_factor_39 ok_X5_join im_X5_join se_X5_join ml5_244 np_X5_join rfl rfl ha rfl (Nat.le_of_ble_eq_true rfl) (Nat.le_of_ble_eq_true rfl) rfl (k_X5_join (d + 5 * lv + 7) (T := T20) (σ := σ19) (a := a) (k := 2) (e := 1) (l := 0) (kp := kp - 4 * v24 - 4) ha (by decide) (by decide) (by decide) w25 (by omega) (by omega) rp28) (fun r30 T32 σ31 gt33 hp => ?_)
      obtain ⟨rfl, w36, F37, f34⟩ := hp
      replace ha : OB T32 a 5 := gt33.ob ha
      have rp39 : RP σ31 a (kp - 4 * v24 - 3) := RP.up f34 (by omega)
      show Tn _ _ 42 T32 σ31 [(0, .ref a), (1, .int (iI dp))] [] _
      refine tn_iconst dX5_factor_42 ?_
      exact tn_zret (v := 1) rfl (by decide) dX5_factor_43 ⟨_, rfl, w36, (((FrC.rfl.trans (FrC.sub F16 (by decide))).trans (FrC.sub F26 (by decide))).trans (FrC.sub (FrC.old F37 gt21) (by decide))), by omega, (RP.up rp39 (by omega))⟩
    · refine tn_iconst dX5_factor_33 ?_
      exact tn_zret (v := 0) rfl (by decide) dX5_factor_34 ⟨_, rfl, w25, ((FrC.rfl.trans (FrC.sub F16 (by decide))).trans (FrC.sub F26 (by decide))), by omega, (RP.up rp28 (by omega))⟩
  · refine tn_aload_n dX5_factor_12 rfl 0 rfl ?_
    refine tn_iload_n dX5_factor_13 rfl 1 rfl ?_
    refine tn_callV (M := m_X5_factor) (pc := 14) (ix := 253) (ci := 5) (M' := m_X5_atom) (As := [.int (iI dp)]) (rest := []) dX5_factor_14 ok_X5_atom im_X5_atom se_X5_atom ml5_253 np_X5_atom rfl rfl ha rfl (Nat.le_of_ble_eq_true rfl) (Nat.le_of_ble_eq_true rfl) rfl (k_X5_atom (d) (T := T) (σ := σ) (a := a) (dp := dp) (kp := kp) (lv := lv) ha (by omega) hw hex (by omega) (by omega) (by omega) hrp) (fun r40 T42 σ41 gt43 hp => ?_)
    obtain ⟨v46, rfl, w47, F48, f44, f45⟩ := hp
    replace ha : OB T42 a 5 := gt43.ob ha
    show Tn _ _ 17 T42 σ41 [(0, .ref a), (1, .int (iI dp))] [.int (iI v46)] _
    exact tn_zret (v := v46) rfl (by omega) dX5_factor_17 ⟨_, rfl, w47, (FrC.rfl.trans (FrC.sub F48 (by decide))), by omega, (RP.up f45 (by omega))⟩
end
section
theorem cd_X5_term : Cond.code yX5_term cX5_term 5 (some .boolean) ∈ pWW := pw3 (List.mem_of_getElem? (i := 173) rfl) rfl
abbrev m_X5_term : MT := (yX5_term, cX5_term, 5, (some .boolean))
theorem ok_X5_term : pOk m_X5_term := ⟨⟨cd_X5_term, ini_5⟩, by decide +kernel, ⟨by decide +kernel, by decide +kernel⟩, Nat.le_of_ble_eq_true rfl⟩
theorem np_X5_term : (parseMethodDescriptor yX5_term.desc).map (fun d => d.parameters.length) = some 1 := by decide +kernel
theorem im_X5_term : Cond.instanceMethod yX5_term ∈ pWW := pw3 (List.mem_of_getElem? (i := 172) rfl) rfl
theorem se_X5_term : Cond.selects RX5 yX5_term yX5_term ∈ pWW := pws (List.mem_map.mpr ⟨_, lw_pin 20 rfl, rfl⟩) rfl
theorem ml5_250 : Cond.methodLink RX5 250 yX5_factor ∈ pWW := pw3 (List.mem_of_getElem? (i := 174) rfl) rfl
theorem dX5_term_0 : decode cX5_term 0 = .ok (.aload_n 0, 1) := by decide +kernel
theorem dX5_term_1 : decode cX5_term 1 = .ok (.iload_n 1, 1) := by decide +kernel
theorem dX5_term_2 : decode cX5_term 2 = .ok (.invokevirtual 250, 3) := by decide +kernel
theorem dX5_term_5 : decode cX5_term 5 = .ok (.ifCond .ne 5, 3) := by decide +kernel
theorem dX5_term_10 : decode cX5_term 10 = .ok (.iconst 0, 1) := by decide +kernel
theorem dX5_term_11 : decode cX5_term 11 = .ok (.istore_n 2, 1) := by decide +kernel
theorem dX5_term_12 : decode cX5_term 12 = .ok (.iload_n 2, 1) := by decide +kernel
theorem dX5_term_13 : decode cX5_term 13 = .ok (.sipush 1200, 3) := by decide +kernel
theorem dX5_term_16 : decode cX5_term 16 = .ok (.if_icmp .ge 57, 3) := by decide +kernel
theorem dX5_term_19 : decode cX5_term 19 = .ok (.aload_n 0, 1) := by decide +kernel
theorem dX5_term_20 : decode cX5_term 20 = .ok (.getfield 12, 3) := by decide +kernel
theorem dX5_term_23 : decode cX5_term 23 = .ok (.getfield 71, 3) := by decide +kernel
theorem dX5_term_26 : decode cX5_term 26 = .ok (.bipush 42, 2) := by decide +kernel
theorem dX5_term_28 : decode cX5_term 28 = .ok (.if_icmp .ne 45, 3) := by decide +kernel
theorem dX5_term_31 : decode cX5_term 31 = .ok (.aload_n 0, 1) := by decide +kernel
theorem dX5_term_32 : decode cX5_term 32 = .ok (.getfield 216, 3) := by decide +kernel
theorem dX5_term_35 : decode cX5_term 35 = .ok (.istore_n 3, 1) := by decide +kernel
theorem dX5_term_36 : decode cX5_term 36 = .ok (.aload_n 0, 1) := by decide +kernel
theorem dX5_term_37 : decode cX5_term 37 = .ok (.getfield 219, 3) := by decide +kernel
theorem dX5_term_40 : decode cX5_term 40 = .ok (.istore 4, 2) := by decide +kernel
theorem dX5_term_42 : decode cX5_term 42 = .ok (.aload_n 0, 1) := by decide +kernel
theorem dX5_term_43 : decode cX5_term 43 = .ok (.getfield 12, 3) := by decide +kernel
theorem dX5_term_46 : decode cX5_term 46 = .ok (.invokevirtual 93, 3) := by decide +kernel
theorem dX5_term_49 : decode cX5_term 49 = .ok (.aload_n 0, 1) := by decide +kernel
theorem dX5_term_50 : decode cX5_term 50 = .ok (.iload_n 1, 1) := by decide +kernel
theorem dX5_term_51 : decode cX5_term 51 = .ok (.invokevirtual 250, 3) := by decide +kernel
theorem dX5_term_54 : decode cX5_term 54 = .ok (.ifCond .ne 5, 3) := by decide +kernel
theorem dX5_term_59 : decode cX5_term 59 = .ok (.aload_n 0, 1) := by decide +kernel
theorem dX5_term_60 : decode cX5_term 60 = .ok (.iconst 3, 1) := by decide +kernel
theorem dX5_term_61 : decode cX5_term 61 = .ok (.iload_n 3, 1) := by decide +kernel
theorem dX5_term_62 : decode cX5_term 62 = .ok (.iload 4, 2) := by decide +kernel
theorem dX5_term_64 : decode cX5_term 64 = .ok (.invokevirtual 244, 3) := by decide +kernel
theorem dX5_term_67 : decode cX5_term 67 = .ok (.iinc 2 1, 3) := by decide +kernel
theorem dX5_term_70 : decode cX5_term 70 = .ok (.goto (-58), 3) := by decide +kernel
set_option maxRecDepth 20000 in
theorem l_X5_term_12 (d : Nat) {T0 : CT} {σ0 : MS} {a : Nat} {c1 : Int} {kp : Int} {lv : Nat} {post : Option Value → CT → MS → Prop} (r_c1 : 0 ≤ c1 ∧ c1 ≤ 8) (hw0 : WT T0 σ0) (hlv : 8 ≤ c1 + (lv : Int)) (hkp : kp ≤ 150) (hex : ∀ (d : Nat) {T : CT} {σ : MS} {a : Nat} {dp : Int} {kp : Int} (ha : OB T a 5) (h_dp : -2147483648 ≤ dp ∧ dp ≤ 2147483647) (hw : WT T σ) (hdp : 0 ≤ dp ∧ dp ≤ 9) (hlv : 9 ≤ dp + (lv : Int)) (hkp : kp ≤ 150) (hrp : RP σ a kp), Tn (d + 5 * lv + 10) m_X5_expression 0 T σ [(0, .ref a), (1, .int (iI dp))] [] (fun ro T2 σ2 => ∃ v : Int, ro = some (.int (iI v)) ∧ WT T2 σ2 ∧ FrC T [5, 6, 7, 43, 44, 47, 50, 51, 84, 85, 86, 87, 521] σ σ2 ∧ (v = 0 ∨ v = 1) ∧ (RP σ2 a (kp - 4 * v)))) (hx_57 : ∀ (T : CT) (i2 : Int) (σ : MS) , (GT T0 T) → (WT T σ) → (FrC T0 [5, 6, 7, 43, 44, 47, 50, 51, 84, 85, 86, 87, 521] σ0 σ) → (OB T a 5) → (0 ≤ i2 ∧ i2 ≤ 2147483647) → (RP σ a kp) → Tn (d + 5 * lv + 13) m_X5_term 57 T σ [(0, .ref a), (1, .int (iI c1)), (2, .int (iI i2))] [] post) (hx_73 : ∀ (T : CT) (i2 : Int) (σ : MS) , (GT T0 T) → (WT T σ) → (FrC T0 [5, 6, 7, 43, 44, 47, 50, 51, 84, 85, 86, 87, 521] σ0 σ) → (OB T a 5) → (0 ≤ i2 ∧ i2 ≤ 2147483647) → (RP σ a kp) → Tn (d + 5 * lv + 13) m_X5_term 73 T σ [(0, .ref a), (1, .int (iI c1)), (2, .int (iI i2))] [] post) : ∀ (n : Nat) (T : CT) (i2 : Int) (σ : MS) , (GT T0 T) → (WT T σ) → (FrC T0 [5, 6, 7, 43, 44, 47, 50, 51, 84, 85, 86, 87, 521] σ0 σ) → (OB T a 5) → (0 ≤ i2 ∧ i2 ≤ 2147483647) → (RP σ a kp) → (2147483700 - i2).toNat = n → Tn (d + 5 * lv + 13) m_X5_term 12 T σ [(0, .ref a), (1, .int (iI c1)), (2, .int (iI i2))] [] post := by
  intro n
  induction n using Nat.strongRecOn with
  | _ n ih =>
    intro T i2 σ hG hw hF h_a r_i2 hrp hm
    refine tn_iload_n dX5_term_12 rfl 2 rfl ?_
    refine tn_sipush dX5_term_13 (by decide) ?_
    refine tn_icmp_ge (tgt := 73) dX5_term_16 (by decide) ⟨by omega, by omega⟩ ⟨by decide, by decide⟩ (fun h1 => ?_) (fun h1 => ?_)
    · exact tn_sub [0, 1, 2] rfl (hx_73 T (i2) σ hG hw (FrC.rfl.trans (FrC.sub hF (by decide))) h_a (by omega) (RP.up hrp (by omega)))
    · refine tn_aload_n dX5_term_19 rfl 0 rfl ?_
      obtain ⟨x2, hx3, hk4⟩ : ∃ x : Nat, σ.2.1 33 a = (x : Int) ∧ (T x).1 = 39 := wf_33 hw h_a
      have hk4o : OB T x2 9 := ⟨by omega, by rw [hk4]; rfl, by omega⟩
      refine tn_getR (ci := 5) (i := 0) (n := 33) (x := x2) dX5_term_20 rfl lay_5 (by decide) fl5_12 h_a rfl rfl (hx3) ?_
      refine tn_getI (ci := 9) (i := 4) (n := 85) (t := σ.2.1 85 x2) dX5_term_23 rfl lay_9 (by decide) fl5_71 hk4o rfl rfl (rfl) ?_
      have g6 : ((-2147483648 : Int) ≤ σ.2.1 85 x2 ∧ σ.2.1 85 x2 ≤ 2147483647) := wf_85 hw hk4o
      refine tn_bipush dX5_term_26 (by decide) ?_
      refine tn_icmp_ne (tgt := 73) dX5_term_28 (by decide) ⟨by omega, by omega⟩ ⟨by decide, by decide⟩ (fun h7 => ?_) (fun h7 => ?_)
      · exact tn_sub [0, 1, 2] rfl (hx_73 T (i2) σ hG hw (FrC.rfl.trans (FrC.sub hF (by decide))) h_a (by omega) (RP.up hrp (by omega)))
      · refine tn_aload_n dX5_term_31 rfl 0 rfl ?_
        refine tn_getI (ci := 5) (i := 17) (n := 50) (t := σ.2.1 50 a) dX5_term_32 rfl lay_5 (by decide) fl5_216 h_a rfl rfl (rfl) ?_
        have g8 : ((-2147483648 : Int) ≤ σ.2.1 50 a ∧ σ.2.1 50 a ≤ 2147483647) := wf_50 hw h_a
        refine tn_istore_n (L' := [(3, .int (iI (σ.2.1 50 a))), (0, .ref a), (1, .int (iI c1)), (2, .int (iI i2))]) dX5_term_35 rfl (by decide) rfl ?_
        refine tn_aload_n dX5_term_36 rfl 1 rfl ?_
        refine tn_getI (ci := 5) (i := 18) (n := 51) (t := σ.2.1 51 a) dX5_term_37 rfl lay_5 (by decide) fl5_219 h_a rfl rfl (rfl) ?_
        have g9 : ((-2147483648 : Int) ≤ σ.2.1 51 a ∧ σ.2.1 51 a ≤ 2147483647) := wf_51 hw h_a
        refine tn_istore (L' := [(4, .int (iI (σ.2.1 51 a))), (3, .int (iI (σ.2.1 50 a))), (0, .ref a), (1, .int (iI c1)), (2, .int (iI i2))]) dX5_term_40 (by decide) rfl ?_
        refine tn_aload_n dX5_term_42 rfl 2 rfl ?_
        refine tn_getR (ci := 5) (i := 0) (n := 33) (x := x2) dX5_term_43 rfl lay_5 (by decide) fl5_12 h_a rfl rfl (hx3) ?_
        refine tn_callV (M := m_X5_term) (pc := 46) (ix := 93) (ci := 9) (M' := m_X9_next) (As := []) (rest := []) dX5_term_46 ok_X9_next im_X9_next se_X9_next ml5_93 np_X9_next rfl rfl hk4o rfl (Nat.le_of_ble_eq_true rfl) (Nat.le_of_ble_eq_true rfl) rfl (k_X9_next (d + 5 * lv + 11) (T := T) (σ := σ) (a := x2) hk4o hw (RP.tk hrp hw h_a (hx3))) (fun r10 T12 σ11 gt13 hp => ?_)
        obtain ⟨rfl, rfl, w18, F19, f14, f15, f16⟩ := hp
        clear gt13
        have rp20 : RP σ11 a (kp - 4) := RP.next4 hrp (hx3) F19 (by decide) (by decide) (by decide) f14 f16 (by rw [show σ.2.1 85 x2 = σ.2.1 85 x2 from rfl]; omega)
        show Tn _ _ 49 T σ11 [(4, .int (iI (σ.2.1 51 a))), (3, .int (iI (σ.2.1 50 a))), (0, .ref a), (1, .int (iI c1)), (2, .int (iI i2))] [] _
        refine tn_aload_n dX5_term_49 rfl 2 rfl ?_
        refine tn_iload_n dX5_term_50 rfl 3 rfl ?_
        refine tn_callV (M := m_X5_term) (pc := 51) (ix := 250) (ci := 5) (M' := m_X5_factor) (As := [.int (iI c1)]) (rest := []) dX5_term_51 ok_X5_factor im_X5_factor se_X5_factor ml5_250 np_X5_factor rfl rfl h_a rfl (Nat.le_of_ble_eq_true rfl) (Nat.le_of_ble_eq_true rfl) rfl (k_X5_factor (d) (T := T) (σ := σ11) (a := a) (dp := c1) (kp := kp - 4) (lv := lv) h_a (by omega) w18 hex (by omega) (by omega) (by omega) rp20) (fun r21 T23 σ22 gt24 hp => ?_)
        obtain ⟨v27, rfl, w28, F29, f25, f26⟩ := hp
        replace h_a : OB T23 a 5 := gt24.ob h_a
        have rp31 : RP σ22 a (kp - 4 * v27 - 4) := RP.up f26 (by omega)
        show Tn _ _ 54 T23 σ22 [(4, .int (iI (σ.2.1 51 a))), (3, .int (iI (σ.2.1 50 a))), (0, .ref a), (1, .int (iI c1)), (2, .int (iI i2))] [.int (iI v27)] _
        refine tn_if_ne (tgt := 59) dX5_term_54 (by decide) ⟨by omega, by omega⟩ (fun h32 => ?_) (fun h32 => ?_)
        · refine tn_aload_n dX5_term_59 rfl 2 rfl ?_
          refine tn_iconst dX5_term_60 ?_
          refine tn_iload_n dX5_term_61 rfl 1 rfl ?_
          refine tn_iload dX5_term_62 0 rfl ?_
          refine tn_callV (M := m_X5_term) (pc := 64) (ix := 244) (ci := 5) (M' := m_X5_join) (As := [.int (iI 3), .int (iI (σ.2.1 50 a)), .int (iI (σ.2.1 51 a))]) (rest := []) dX5_term_64 ok_X5_join im_X5_join se_X5_join ml5_244 np_X5_join rfl rfl h_a rfl (Nat.le_of_ble_eq_true rfl) (Nat.le_of_ble_eq_true rfl) rfl (k_X5_join (d + 5 * lv + 8) (T := T23) (σ := σ22) (a := a) (k := 3) (e := σ.2.1 50 a) (l := σ.2.1 51 a) (kp := kp - 4 * v27 - 4) h_a (by decide) (by omega) (by omega) w28 (by omega) (by omega) rp31) (fun r33 T35 σ34 gt36 hp => ?_)
          obtain ⟨rfl, w39, F40, f37⟩ := hp
          replace h_a : OB T35 a 5 := gt36.ob h_a
          have rp42 : RP σ34 a (kp - 4 * v27 - 3) := RP.up f37 (by omega)
          show Tn _ _ 67 T35 σ34 [(4, .int (iI (σ.2.1 51 a))), (3, .int (iI (σ.2.1 50 a))), (0, .ref a), (1, .int (iI c1)), (2, .int (iI i2))] [] _
          refine tn_iinc (q0 := 4) (L' := [(2, .int (iI (i2 + 1))), (4, .int (iI (σ.2.1 51 a))), (3, .int (iI (σ.2.1 50 a))), (0, .ref a), (1, .int (iI c1))]) dX5_term_67 rfl (by decide) rfl ?_
          refine tn_goto (tgt := 12) dX5_term_70 (by decide) ?_
          exact tn_sub [3, 4, 0] rfl (ih _ (by omega) T35 (i2 + 1) σ34 (GT.trans (GT.trans hG gt24) gt36) w39 ((((FrC.rfl.trans (FrC.sub hF (by decide))).trans (FrC.sub (FrC.old F19 hG) (by decide))).trans (FrC.sub (FrC.old F29 hG) (by decide))).trans (FrC.sub (FrC.old F40 (GT.trans hG gt24)) (by decide))) h_a (by omega) (RP.up rp42 (by omega)) rfl)
        · exact tn_sub [2, 3, 4] rfl (hx_57 T23 (i2) σ22 (GT.trans hG gt24) w28 (((FrC.rfl.trans (FrC.sub hF (by decide))).trans (FrC.sub (FrC.old F19 hG) (by decide))).trans (FrC.sub (FrC.old F29 hG) (by decide))) h_a (by omega) (RP.up rp31 (by omega)))
theorem dX5_term_57 : decode cX5_term 57 = .ok (.iconst 0, 1) := by decide +kernel
theorem dX5_term_58 : decode cX5_term 58 = .ok (.ireturn, 1) := by decide +kernel
theorem dX5_term_73 : decode cX5_term 73 = .ok (.iconst 1, 1) := by decide +kernel
theorem dX5_term_74 : decode cX5_term 74 = .ok (.ireturn, 1) := by decide +kernel
theorem dX5_term_8 : decode cX5_term 8 = .ok (.iconst 0, 1) := by decide +kernel
theorem dX5_term_9 : decode cX5_term 9 = .ok (.ireturn, 1) := by decide +kernel
set_option maxRecDepth 20000 in
theorem k_X5_term (d : Nat) {T : CT} {σ : MS} {a : Nat} {dp : Int} {kp : Int} {lv : Nat} (ha : OB T a 5) (h_dp : -2147483648 ≤ dp ∧ dp ≤ 2147483647) (hw : WT T σ) (hex : ∀ (d : Nat) {T : CT} {σ : MS} {a : Nat} {dp : Int} {kp : Int} (ha : OB T a 5) (h_dp : -2147483648 ≤ dp ∧ dp ≤ 2147483647) (hw : WT T σ) (hdp : 0 ≤ dp ∧ dp ≤ 9) (hlv : 9 ≤ dp + (lv : Int)) (hkp : kp ≤ 150) (hrp : RP σ a kp), Tn (d + 5 * lv + 10) m_X5_expression 0 T σ [(0, .ref a), (1, .int (iI dp))] [] (fun ro T2 σ2 => ∃ v : Int, ro = some (.int (iI v)) ∧ WT T2 σ2 ∧ FrC T [5, 6, 7, 43, 44, 47, 50, 51, 84, 85, 86, 87, 521] σ σ2 ∧ (v = 0 ∨ v = 1) ∧ (RP σ2 a (kp - 4 * v)))) (hdp : 0 ≤ dp ∧ dp ≤ 8) (hlv : 8 ≤ dp + (lv : Int)) (hkp : kp ≤ 150) (hrp : RP σ a kp) : Tn (d + 5 * lv + 13) m_X5_term 0 T σ [(0, .ref a), (1, .int (iI dp))] [] (fun ro T2 σ2 => ∃ v : Int, ro = some (.int (iI v)) ∧ WT T2 σ2 ∧ FrC T [5, 6, 7, 43, 44, 47, 50, 51, 84, 85, 86, 87, 521] σ σ2 ∧ (v = 0 ∨ v = 1) ∧ (RP σ2 a (kp - 4 * v))) := by
  refine tn_aload_n dX5_term_0 rfl 0 rfl ?_
  refine tn_iload_n dX5_term_1 rfl 1 rfl ?_
  refine tn_callV (M := m_X5_term) (pc := 2) (ix := 250) (ci := 5) (M' := m_X5_factor) (As := [.int (iI dp)]) (rest := []) dX5_term_2 ok_X5_factor im_X5_factor se_X5_factor ml5_250 np_X5_factor rfl rfl ha rfl (Nat.le_of_ble_eq_true rfl) (Nat.le_of_ble_eq_true rfl) rfl (k_X5_factor (d) (T := T) (σ := σ) (a := a) (dp := dp) (kp := kp) (lv := lv) ha (by omega) hw hex (by omega) (by omega) (by omega) hrp) (fun r1 T3 σ2 gt4 hp => ?_)
  obtain ⟨v7, rfl, w8, F9, f5, f6⟩ := hp
  replace ha : OB T3 a 5 := gt4.ob ha
  show Tn _ _ 5 T3 σ2 [(0, .ref a), (1, .int (iI dp))] [.int (iI v7)] _
  refine tn_if_ne (tgt := 10) dX5_term_5 (by decide) ⟨by omega, by omega⟩ (fun h11 => ?_) (fun h11 => ?_)
  · refine tn_iconst dX5_term_10 ?_
    refine tn_istore_n (L' := [(2, .int (iI 0)), (0, .ref a), (1, .int (iI dp))]) dX5_term_11 rfl (by decide) rfl ?_
    refine tn_sub [1, 2, 0] rfl (l_X5_term_12 (d) (σ0 := σ2) (T0 := T3) (a := a) (c1 := dp) (kp := kp - 4 * v7) (lv := lv) (by omega) w8 (by omega) (by omega) hex (fun T14 i212 σ13 gt15 w16 F17 q18 r19 f20 => ?_) (fun T23 i221 σ22 gt24 w25 F26 q27 r28 f29 => ?_) _ T3 (0) σ2 GT.rfl w8 FrC.rfl ha (by omega) f6 rfl)
    · show Tn _ _ 57 T14 σ13 [(0, .ref a), (1, .int (iI dp)), (2, .int (iI i212))] [] _
      refine tn_iconst dX5_term_57 ?_
      exact tn_zret (v := 0) rfl (by decide) dX5_term_58 ⟨_, rfl, w16, ((FrC.rfl.trans (FrC.sub F9 (by decide))).trans (FrC.sub (FrC.old F17 gt4) (by decide))), by omega, (RP.up f20 (by omega))⟩
    · show Tn _ _ 73 T23 σ22 [(0, .ref a), (1, .int (iI dp)), (2, .int (iI i221))] [] _
      refine tn_iconst dX5_term_73 ?_
      exact tn_zret (v := 1) rfl (by decide) dX5_term_74 ⟨_, rfl, w25, ((FrC.rfl.trans (FrC.sub F9 (by decide))).trans (FrC.sub (FrC.old F26 gt4) (by decide))), by omega, (RP.up f29 (by omega))⟩
  · refine tn_iconst dX5_term_8 ?_
    exact tn_zret (v := 0) rfl (by decide) dX5_term_9 ⟨_, rfl, w8, (FrC.rfl.trans (FrC.sub F9 (by decide))), by omega, (RP.up f6 (by omega))⟩
end
