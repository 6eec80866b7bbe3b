theorem dX12_areAlike_140 : decode cX12_areAlike 140 = .ok (.iload 8, 2) := by decide +kernel
theorem dX12_areAlike_142 : decode cX12_areAlike 142 = .ok (.aload_n 0, 1) := by decide +kernel
theorem dX12_areAlike_143 : decode cX12_areAlike 143 = .ok (.getfield 38, 3) := by decide +kernel
theorem dX12_areAlike_146 : decode cX12_areAlike 146 = .ok (.iload_n 3, 1) := by decide +kernel
theorem dX12_areAlike_147 : decode cX12_areAlike 147 = .ok (.iaload, 1) := by decide +kernel
theorem dX12_areAlike_148 : decode cX12_areAlike 148 = .ok (.if_icmp .ge 93, 3) := by decide +kernel
theorem dX12_areAlike_151 : decode cX12_areAlike 151 = .ok (.iload_n 1, 1) := by decide +kernel
theorem dX12_areAlike_152 : decode cX12_areAlike 152 = .ok (.ifCond .eq 89, 3) := by decide +kernel
theorem dX12_areAlike_155 : decode cX12_areAlike 155 = .ok (.aload_n 0, 1) := by decide +kernel
theorem dX12_areAlike_156 : decode cX12_areAlike 156 = .ok (.iload 8, 2) := by decide +kernel
theorem dX12_areAlike_158 : decode cX12_areAlike 158 = .ok (.invokevirtual 587, 3) := by decide +kernel
theorem dX12_areAlike_161 : decode cX12_areAlike 161 = .ok (.istore 9, 2) := by decide +kernel
theorem dX12_areAlike_163 : decode cX12_areAlike 163 = .ok (.aload_n 0, 1) := by decide +kernel
theorem dX12_areAlike_164 : decode cX12_areAlike 164 = .ok (.getfield 99, 3) := by decide +kernel
theorem dX12_areAlike_167 : decode cX12_areAlike 167 = .ok (.iload 9, 2) := by decide +kernel
theorem dX12_areAlike_169 : decode cX12_areAlike 169 = .ok (.iaload, 1) := by decide +kernel
theorem dX12_areAlike_170 : decode cX12_areAlike 170 = .ok (.bipush 10, 2) := by decide +kernel
theorem dX12_areAlike_172 : decode cX12_areAlike 172 = .ok (.if_icmp .ge 7, 3) := by decide +kernel
theorem dX12_areAlike_179 : decode cX12_areAlike 179 = .ok (.iconst 0, 1) := by decide +kernel
theorem dX12_areAlike_180 : decode cX12_areAlike 180 = .ok (.istore 10, 2) := by decide +kernel
theorem dX12_areAlike_182 : decode cX12_areAlike 182 = .ok (.aload_n 0, 1) := by decide +kernel
theorem dX12_areAlike_183 : decode cX12_areAlike 183 = .ok (.getfield 182, 3) := by decide +kernel
theorem dX12_areAlike_186 : decode cX12_areAlike 186 = .ok (.iload 10, 2) := by decide +kernel
theorem dX12_areAlike_188 : decode cX12_areAlike 188 = .ok (.ifCond .eq 7, 3) := by decide +kernel
theorem dX12_areAlike_195 : decode cX12_areAlike 195 = .ok (.iconst 1, 1) := by decide +kernel
theorem dX12_areAlike_196 : decode cX12_areAlike 196 = .ok (.dup2, 1) := by decide +kernel
theorem dX12_areAlike_197 : decode cX12_areAlike 197 = .ok (.iaload, 1) := by decide +kernel
theorem dX12_areAlike_198 : decode cX12_areAlike 198 = .ok (.iconst 1, 1) := by decide +kernel
theorem dX12_areAlike_199 : decode cX12_areAlike 199 = .ok (.iadd, 1) := by decide +kernel
theorem dX12_areAlike_200 : decode cX12_areAlike 200 = .ok (.iastore, 1) := by decide +kernel
theorem dX12_areAlike_201 : decode cX12_areAlike 201 = .ok (.iload 10, 2) := by decide +kernel
theorem dX12_areAlike_203 : decode cX12_areAlike 203 = .ok (.ifCond .eq 26, 3) := by decide +kernel
theorem dX12_areAlike_229 : decode cX12_areAlike 229 = .ok (.iconst 1, 1) := by decide +kernel
theorem dX12_areAlike_230 : decode cX12_areAlike 230 = .ok (.goto 4, 3) := by decide +kernel
theorem dX12_areAlike_234 : decode cX12_areAlike 234 = .ok (.istore_n 1, 1) := by decide +kernel
theorem dX12_areAlike_235 : decode cX12_areAlike 235 = .ok (.iinc 8 1, 3) := by decide +kernel
theorem dX12_areAlike_238 : decode cX12_areAlike 238 = .ok (.goto (-98), 3) := by decide +kernel
theorem dX12_areAlike_175 : decode cX12_areAlike 175 = .ok (.iconst 1, 1) := by decide +kernel
theorem dX12_areAlike_176 : decode cX12_areAlike 176 = .ok (.goto 4, 3) := by decide +kernel
theorem dX12_areAlike_191 : decode cX12_areAlike 191 = .ok (.iconst 0, 1) := by decide +kernel
theorem dX12_areAlike_192 : decode cX12_areAlike 192 = .ok (.goto 4, 3) := by decide +kernel
theorem dX12_areAlike_206 : decode cX12_areAlike 206 = .ok (.aload_n 0, 1) := by decide +kernel
theorem dX12_areAlike_207 : decode cX12_areAlike 207 = .ok (.iload 9, 2) := by decide +kernel
theorem dX12_areAlike_209 : decode cX12_areAlike 209 = .ok (.invokevirtual 590, 3) := by decide +kernel
theorem dX12_areAlike_212 : decode cX12_areAlike 212 = .ok (.aload_n 0, 1) := by decide +kernel
theorem dX12_areAlike_213 : decode cX12_areAlike 213 = .ok (.getfield 179, 3) := by decide +kernel
theorem dX12_areAlike_216 : decode cX12_areAlike 216 = .ok (.sipush 192, 3) := by decide +kernel
theorem dX12_areAlike_219 : decode cX12_areAlike 219 = .ok (.iload 7, 2) := by decide +kernel
theorem dX12_areAlike_221 : decode cX12_areAlike 221 = .ok (.imul, 1) := by decide +kernel
theorem dX12_areAlike_222 : decode cX12_areAlike 222 = .ok (.iload 8, 2) := by decide +kernel
theorem dX12_areAlike_224 : decode cX12_areAlike 224 = .ok (.iadd, 1) := by decide +kernel
theorem dX12_areAlike_225 : decode cX12_areAlike 225 = .ok (.iaload, 1) := by decide +kernel
theorem dX12_areAlike_226 : decode cX12_areAlike 226 = .ok (.if_icmp .ne 7, 3) := by decide +kernel
theorem dX12_areAlike_233 : decode cX12_areAlike 233 = .ok (.iconst 0, 1) := by decide +kernel
set_option maxHeartbeats 4000000 in
set_option maxRecDepth 20000 in
theorem l_areA2 (d : Nat) {b : Nat} {σ0 : MS} {k : Int} {r3 : Int} {x4 : Int} {c5 : Int} {f6 : Int} {c7 : Int} {post : Option Value → MS → Prop} (hR0 : RG σ0) (hit : ITM σ0) (hpar : PAR σ0) (hnam : NAM σ0) (hgd : GDA σ0) (hgg : (0 ≤ σ0.1 83 ∧ σ0.1 83 < 27) ∧ (0 ≤ σ0.2.1 78 (σ0.1 83) ∧ σ0.2.1 78 (σ0.1 83) < σ0.1 10) ∧ (0 ≤ σ0.2.1 79 (σ0.1 83) ∧ σ0.2.1 79 (σ0.1 83) ≤ 219) ∧ (0 ≤ σ0.1 84 ∧ σ0.1 84 < 12)) (hr3 : 0 ≤ r3 ∧ r3 < 6) (hc7 : 0 ≤ c7 ∧ c7 < 27) (hC : (0 ≤ σ0.2.1 86 0 ∧ σ0.2.1 86 0 ≤ 1000000000) ∧ 0 ≤ σ0.2.1 86 1 ∧ σ0.2.1 86 1 ≤ 1000000000) (hx_241 : ∀ (n8 : Int) (a : Int) (σ : MS) , (Fr [] [46, 47, 48, 49, 50, 51, 52, 53, 54, 55, 56, 57, 58, 86] [] σ0 σ) → (RG σ) → (a = 0 ∨ a = 1) → (LAB σ) → (BO 47 σ) → (BO 48 σ) → (SSA σ) → (SCA σ) → ((σ0.2.1 86 0 ≤ σ.2.1 86 0 ∧ σ.2.1 86 0 ≤ σ0.2.1 86 0 + 12) ∧ σ0.2.1 86 1 ≤ σ.2.1 86 1 ∧ σ.2.1 86 1 ≤ σ0.2.1 86 1 + 12) → Tm (d + 8) m_X12_areAlike 241 b σ [(1, .int (iI a)), (2, .int (iI k)), (0, .ref b)] [] post) : ∀ (n : Nat) (n8 : Int) (a : Int) (σ : MS) , (Fr [] [46, 47, 48, 49, 50, 51, 52, 53, 54, 55, 56, 57, 58, 86] [] σ0 σ) → (RG σ) → (0 ≤ n8 ∧ n8 ≤ 12 ∧ (a = 0 ∨ a = 1)) → (LAB σ) → (BO 47 σ) → (BO 48 σ) → (SSA σ) → (SCA σ) → ((σ0.2.1 86 0 ≤ σ.2.1 86 0 ∧ σ.2.1 86 0 ≤ σ0.2.1 86 0 + n8) ∧ σ0.2.1 86 1 ≤ σ.2.1 86 1 ∧ σ.2.1 86 1 ≤ σ0.2.1 86 1 + n8) → (12 - n8).toNat = n → Tm (d + 8) m_X12_areAlike 140 b σ [(8, .int (iI n8)), (7, .int (iI c7)), (6, .int (iI f6)), (5, .int (iI c5)), (4, .int (iI x4)), (3, .int (iI r3)), (1, .int (iI a)), (2, .int (iI k)), (0, .ref b)] [] post := by
  intro n
  induction n using Nat.strongRecOn with
  | _ n ih =>
    intro n8 a σ hF hR h0 hl hbo hbh hss hsc hcb hm
    have hnm := hnam r3 (by omega) (by omega)
    have hg1 := hgg
    rw [← hF.2.1 78 (by decide), ← hF.1 83 (by decide), ← hF.1 84 (by decide), ← hF.2.1 79 (by decide), ← hF.1 10 (by decide)] at hg1
    have hg1c := hg1.1
    refine tm_iload dX12_areAlike_140 0 rfl ?_
    refine tm_aload_n dX12_areAlike_142 rfl 8 rfl ?_
    refine tm_get (k := 12) (v := .ref (b + 1 + 9)) lay_12 dX12_areAlike_143 (by decide) fl12_38 rfl ?_
    refine tm_iload_n dX12_areAlike_146 rfl 5 rfl ?_
    refine tm_iald (z := r3) (v := σ0.2.1 12 r3) dX12_areAlike_147 (show mT[9]? = some (12, 0, 6) from rfl) (by omega) (by omega) (by decide) (ra_F hF (by decide) (rfl)) ?_
    have g1 := RG.a hR0 12 (r3)
    refine tm_icmp_ge (tgt := 241) dX12_areAlike_148 (by decide) ⟨by omega, by omega⟩ ⟨by omega, by omega⟩ (fun h2 => ?_) (fun h2 => ?_)
    · exact tm_sub [6, 7, 8] rfl (hx_241 (0) (a) σ (Fr.rfl.trans (Fr.sub hF (by decide) (by decide) (by decide))) hR (by omega) hl hbo hbh hss hsc (by omega))
    · refine tm_iload_n dX12_areAlike_151 rfl 6 rfl ?_
      refine tm_if_eq (tgt := 241) dX12_areAlike_152 (by decide) ⟨by omega, by omega⟩ (fun h3 => ?_) (fun h3 => ?_)
      · exact tm_sub [6, 7, 8] rfl (hx_241 (0) (a) σ (Fr.rfl.trans (Fr.sub hF (by decide) (by decide) (by decide))) hR (by omega) hl hbo hbh hss hsc (by omega))
      · refine tm_aload_n dX12_areAlike_155 rfl 8 rfl ?_
        refine tm_iload dX12_areAlike_156 0 rfl ?_
        refine tm_callV (M := m_X12_areAlike) (pc := 158) (ix := 587) (M' := m_X12_stateAt) (As := [.int (iI n8)]) (rest := []) dX12_areAlike_158 ok_X12_stateAt im_X12_stateAt se_X12_stateAt ml12_587 np_X12_stateAt rfl rfl (Nat.le_of_ble_eq_true rfl) (Nat.le_of_ble_eq_true rfl) rfl (c_X12_stateAt (d + 1) (σ := σ) (n := n8) hR (hit.fr hF (by decide)) (hpar.fr hF (by decide)) (hnam.fr hF (by decide)) (hgd.fr hF (by decide) (by decide)).rtn hl hbo hbh hss hsc hg1 (by omega)) (fun r4 σ5 hp => ?_)
        obtain ⟨v6, rfl, f7, f8, f9, f10, f11, f12, f13, f14⟩ := hp
        show Tm _ _ 161 b σ5 [(8, .int (iI n8)), (7, .int (iI c7)), (6, .int (iI f6)), (5, .int (iI c5)), (4, .int (iI x4)), (3, .int (iI r3)), (1, .int (iI a)), (2, .int (iI k)), (0, .ref b)] [.int (iI v6)] _
        have k2 := f9
        have k3 := f10
        have k4 := f11
        have k5 := f12
        have k6 := f13
        refine tm_istore (L' := [(9, .int (iI v6)), (8, .int (iI n8)), (7, .int (iI c7)), (6, .int (iI f6)), (5, .int (iI c5)), (4, .int (iI x4)), (3, .int (iI r3)), (1, .int (iI a)), (2, .int (iI k)), (0, .ref b)]) dX12_areAlike_161 (by decide) rfl ?_
        refine tm_aload_n dX12_areAlike_163 rfl 9 rfl ?_
        refine tm_get (k := 49) (v := .ref (b + 1 + 27)) lay_12 dX12_areAlike_164 (by decide) fl12_99 rfl ?_
        refine tm_iload dX12_areAlike_167 0 rfl ?_
        refine tm_iald (z := v6) (v := σ5.2.1 49 v6) dX12_areAlike_169 (show mT[27]? = some (49, 0, 190944) from rfl) (by omega) (by omega) (by decide) (rfl) ?_
        have g15 := RG.a f8 49 (v6)
        refine tm_bipush dX12_areAlike_170 (by decide) ?_
        refine tm_icmp_ge (tgt := 179) dX12_areAlike_172 (by decide) ⟨by omega, by omega⟩ ⟨by decide, by decide⟩ (fun h16 => ?_) (fun h16 => ?_)
        · refine tm_iconst dX12_areAlike_179 ?_
          refine tm_istore (L' := [(10, .int (iI 0)), (9, .int (iI v6)), (8, .int (iI n8)), (7, .int (iI c7)), (6, .int (iI f6)), (5, .int (iI c5)), (4, .int (iI x4)), (3, .int (iI r3)), (1, .int (iI a)), (2, .int (iI k)), (0, .ref b)]) dX12_areAlike_180 (by decide) rfl ?_
          refine tm_aload_n dX12_areAlike_182 rfl 10 rfl ?_
          refine tm_get (k := 86) (v := .ref (b + 1 + 54)) lay_12 dX12_areAlike_183 (by decide) fl12_182 rfl ?_
          refine tm_iload dX12_areAlike_186 0 rfl ?_
          refine tm_if_eq (tgt := 195) dX12_areAlike_188 (by decide) ⟨by decide, by decide⟩ (fun _ => ?_) (fun h => absurd h (by decide))
          refine tm_iconst dX12_areAlike_195 ?_
          refine tm_dup2 dX12_areAlike_196 rfl rfl ?_
          refine tm_iald (z := 1) (v := σ.2.1 86 1) dX12_areAlike_197 (show mT[54]? = some (86, 0, 3) from rfl) (by omega) (by omega) (by decide) (ra_F f7 (by decide) (rfl)) ?_
          have g18 := RG.a hR 86 (1)
          refine tm_iconst dX12_areAlike_198 ?_
          refine tm_iadd dX12_areAlike_199 ?_
          refine tm_iast (z := 1) (v := (σ.2.1 86 1) + 1) dX12_areAlike_200 (show mT[54]? = some (86, 0, 3) from rfl) (by omega) (by omega) (by decide) ?_
          refine tm_iload dX12_areAlike_201 0 rfl ?_
          refine tm_if_eq (tgt := 229) dX12_areAlike_203 (by decide) ⟨by decide, by decide⟩ (fun _ => ?_) (fun h => absurd h (by decide))
          refine tm_iconst dX12_areAlike_229 ?_
          refine tm_goto (tgt := 234) dX12_areAlike_230 (by decide) ?_
          refine tm_istore_n (L' := [(1, .int (iI 1)), (10, .int (iI 0)), (9, .int (iI v6)), (8, .int (iI n8)), (7, .int (iI c7)), (6, .int (iI f6)), (5, .int (iI c5)), (4, .int (iI x4)), (3, .int (iI r3)), (2, .int (iI k)), (0, .ref b)]) dX12_areAlike_234 rfl (by decide) rfl ?_
          refine tm_iinc (q0 := 3) (L' := [(8, .int (iI (n8 + 1))), (1, .int (iI 1)), (10, .int (iI 0)), (9, .int (iI v6)), (7, .int (iI c7)), (6, .int (iI f6)), (5, .int (iI c5)), (4, .int (iI x4)), (3, .int (iI r3)), (2, .int (iI k)), (0, .ref b)]) dX12_areAlike_235 rfl (by decide) rfl ?_
          refine tm_goto (tgt := 140) dX12_areAlike_238 (by decide) ?_
          exact tm_sub [0, 4, 5, 6, 7, 8, 1, 9, 10] rfl (ih _ (by omega) (n8 + 1) (1) (sA 86 (1) ((σ.2.1 86 1) + 1) σ5) (((Fr.rfl.trans (Fr.sub hF (by decide) (by decide) (by decide))).trans (Fr.sub f7 (by decide) (by decide) (by decide))).A (by decide)) (f8.A (by omega)) (by omega) (k2.fr (show Fr [] [86] [] σ5 (sA 86 (1) ((σ.2.1 86 1) + 1) σ5) from (Fr.rfl.A (by decide))) (by decide)) (k3.fr (show Fr [] [86] [] σ5 (sA 86 (1) ((σ.2.1 86 1) + 1) σ5) from (Fr.rfl.A (by decide))) (by decide)) (k4.fr (show Fr [] [86] [] σ5 (sA 86 (1) ((σ.2.1 86 1) + 1) σ5) from (Fr.rfl.A (by decide))) (by decide)) (k5.fr (show Fr [] [86] [] σ5 (sA 86 (1) ((σ.2.1 86 1) + 1) σ5) from (Fr.rfl.A (by decide))) (by decide)) (k6.fr (show Fr [] [86] [] σ5 (sA 86 (1) ((σ.2.1 86 1) + 1) σ5) from (Fr.rfl.A (by decide))) (by decide)) (by rw [(show (sA 86 (1) ((σ.2.1 86 1) + 1) σ5).2.1 86 0 = σ.2.1 86 0 from ra_ne (by omega) (ra_F f7 (by decide) (rfl))), (show (sA 86 (1) ((σ.2.1 86 1) + 1) σ5).2.1 86 1 = (σ.2.1 86 1) + 1 from ra_eq)]; omega) rfl)
        · refine tm_iconst dX12_areAlike_175 ?_
          refine tm_goto (tgt := 180) dX12_areAlike_176 (by decide) ?_
          refine tm_istore (L' := [(10, .int (iI 1)), (9, .int (iI v6)), (8, .int (iI n8)), (7, .int (iI c7)), (6, .int (iI f6)), (5, .int (iI c5)), (4, .int (iI x4)), (3, .int (iI r3)), (1, .int (iI a)), (2, .int (iI k)), (0, .ref b)]) dX12_areAlike_180 (by decide) rfl ?_
          refine tm_aload_n dX12_areAlike_182 rfl 10 rfl ?_
          refine tm_get (k := 86) (v := .ref (b + 1 + 54)) lay_12 dX12_areAlike_183 (by decide) fl12_182 rfl ?_
          refine tm_iload dX12_areAlike_186 0 rfl ?_
          refine tm_if_eq (tgt := 195) dX12_areAlike_188 (by decide) ⟨by decide, by decide⟩ (fun h => absurd h (by decide)) (fun _ => ?_)
          refine tm_iconst dX12_areAlike_191 ?_
          refine tm_goto (tgt := 196) dX12_areAlike_192 (by decide) ?_
          refine tm_dup2 dX12_areAlike_196 rfl rfl ?_
          refine tm_iald (z := 0) (v := σ.2.1 86 0) dX12_areAlike_197 (show mT[54]? = some (86, 0, 3) from rfl) (by omega) (by omega) (by decide) (ra_F f7 (by decide) (rfl)) ?_
          have g21 := RG.a hR 86 (0)
          refine tm_iconst dX12_areAlike_198 ?_
          refine tm_iadd dX12_areAlike_199 ?_
          refine tm_iast (z := 0) (v := (σ.2.1 86 0) + 1) dX12_areAlike_200 (show mT[54]? = some (86, 0, 3) from rfl) (by omega) (by omega) (by decide) ?_
          refine tm_iload dX12_areAlike_201 0 rfl ?_
          refine tm_if_eq (tgt := 229) dX12_areAlike_203 (by decide) ⟨by decide, by decide⟩ (fun h => absurd h (by decide)) (fun _ => ?_)
          refine tm_aload_n dX12_areAlike_206 rfl 10 rfl ?_
          refine tm_iload dX12_areAlike_207 1 rfl ?_
          refine tm_callV (M := m_X12_areAlike) (pc := 209) (ix := 590) (M' := m_X12_stateWorth) (As := [.int (iI v6)]) (rest := []) dX12_areAlike_209 ok_X12_stateWorth im_X12_stateWorth se_X12_stateWorth ml12_590 np_X12_stateWorth rfl rfl (Nat.le_of_ble_eq_true rfl) (Nat.le_of_ble_eq_true rfl) rfl (c_X12_stateWorth (d + 5) (σ := (sA 86 (0) ((σ.2.1 86 0) + 1) σ5)) (y := v6) (f8.A (by omega)) (by rw [show (sA 86 (0) ((σ.2.1 86 0) + 1) σ5).1 83 = σ.1 83 from rs_A (rs_F f7 (by decide) rfl)]; omega) (by omega) (k5.fr (show Fr [] [86] [] σ5 (sA 86 (0) ((σ.2.1 86 0) + 1) σ5) from (Fr.rfl.A (by decide))) (by decide))) (fun r23 σ24 hp => ?_)
          obtain ⟨v25, rfl, rfl, f26⟩ := hp
          show Tm _ _ 212 b (sA 86 (0) ((σ.2.1 86 0) + 1) σ5) [(10, .int (iI 1)), (9, .int (iI v6)), (8, .int (iI n8)), (7, .int (iI c7)), (6, .int (iI f6)), (5, .int (iI c5)), (4, .int (iI x4)), (3, .int (iI r3)), (1, .int (iI a)), (2, .int (iI k)), (0, .ref b)] [.int (iI v25)] _
          refine tm_aload_n dX12_areAlike_212 rfl 10 rfl ?_
          refine tm_get (k := 82) (v := .ref (b + 1 + 53)) lay_12 dX12_areAlike_213 (by decide) fl12_179 rfl ?_
          refine tm_sipush dX12_areAlike_216 (by decide) ?_
          refine tm_iload dX12_areAlike_219 3 rfl ?_
          refine tm_imul dX12_areAlike_221 ?_
          refine tm_iload dX12_areAlike_222 2 rfl ?_
          refine tm_iadd dX12_areAlike_224 ?_
          refine tm_iald (z := (192 * c7) + n8) (v := σ0.2.1 82 ((192 * c7) + n8)) dX12_areAlike_225 (show mT[53]? = some (82, 0, 5184) from rfl) (by omega) (by omega) (by decide) (ra_o (by decide) (ra_F f7 (by decide) (ra_F hF (by decide) (rfl)))) ?_
          have g27 := RG.a hR0 82 ((192 * c7) + n8)
          refine tm_icmp_ne (tgt := 233) dX12_areAlike_226 (by decide) ⟨by omega, by omega⟩ ⟨by omega, by omega⟩ (fun h28 => ?_) (fun h28 => ?_)
          · refine tm_iconst dX12_areAlike_233 ?_
            refine tm_istore_n (L' := [(1, .int (iI 0)), (10, .int (iI 1)), (9, .int (iI v6)), (8, .int (iI n8)), (7, .int (iI c7)), (6, .int (iI f6)), (5, .int (iI c5)), (4, .int (iI x4)), (3, .int (iI r3)), (2, .int (iI k)), (0, .ref b)]) dX12_areAlike_234 rfl (by decide) rfl ?_
            refine tm_iinc (q0 := 3) (L' := [(8, .int (iI (n8 + 1))), (1, .int (iI 0)), (10, .int (iI 1)), (9, .int (iI v6)), (7, .int (iI c7)), (6, .int (iI f6)), (5, .int (iI c5)), (4, .int (iI x4)), (3, .int (iI r3)), (2, .int (iI k)), (0, .ref b)]) dX12_areAlike_235 rfl (by decide) rfl ?_
            refine tm_goto (tgt := 140) dX12_areAlike_238 (by decide) ?_
            exact tm_sub [0, 4, 5, 6, 7, 8, 1, 9, 10] rfl (ih _ (by omega) (n8 + 1) (0) (sA 86 (0) ((σ.2.1 86 0) + 1) σ5) (((Fr.rfl.trans (Fr.sub hF (by decide) (by decide) (by decide))).trans (Fr.sub f7 (by decide) (by decide) (by decide))).A (by decide)) (f8.A (by omega)) (by omega) (k2.fr (show Fr [] [86] [] σ5 (sA 86 (0) ((σ.2.1 86 0) + 1) σ5) from (Fr.rfl.A (by decide))) (by decide)) (k3.fr (show Fr [] [86] [] σ5 (sA 86 (0) ((σ.2.1 86 0) + 1) σ5) from (Fr.rfl.A (by decide))) (by decide)) (k4.fr (show Fr [] [86] [] σ5 (sA 86 (0) ((σ.2.1 86 0) + 1) σ5) from (Fr.rfl.A (by decide))) (by decide)) (k5.fr (show Fr [] [86] [] σ5 (sA 86 (0) ((σ.2.1 86 0) + 1) σ5) from (Fr.rfl.A (by decide))) (by decide)) (k6.fr (show Fr [] [86] [] σ5 (sA 86 (0) ((σ.2.1 86 0) + 1) σ5) from (Fr.rfl.A (by decide))) (by decide)) (by rw [(show (sA 86 (0) ((σ.2.1 86 0) + 1) σ5).2.1 86 0 = (σ.2.1 86 0) + 1 from ra_eq), (show (sA 86 (0) ((σ.2.1 86 0) + 1) σ5).2.1 86 1 = σ.2.1 86 1 from ra_ne (by omega) (ra_F f7 (by decide) (rfl)))]; omega) rfl)
          · refine tm_iconst dX12_areAlike_229 ?_
            refine tm_goto (tgt := 234) dX12_areAlike_230 (by decide) ?_
            refine tm_istore_n (L' := [(1, .int (iI 1)), (10, .int (iI 1)), (9, .int (iI v6)), (8, .int (iI n8)), (7, .int (iI c7)), (6, .int (iI f6)), (5, .int (iI c5)), (4, .int (iI x4)), (3, .int (iI r3)), (2, .int (iI k)), (0, .ref b)]) dX12_areAlike_234 rfl (by decide) rfl ?_
            refine tm_iinc (q0 := 3) (L' := [(8, .int (iI (n8 + 1))), (1, .int (iI 1)), (10, .int (iI 1)), (9, .int (iI v6)), (7, .int (iI c7)), (6, .int (iI f6)), (5, .int (iI c5)), (4, .int (iI x4)), (3, .int (iI r3)), (2, .int (iI k)), (0, .ref b)]) dX12_areAlike_235 rfl (by decide) rfl ?_
            refine tm_goto (tgt := 140) dX12_areAlike_238 (by decide) ?_
            exact tm_sub [0, 4, 5, 6, 7, 8, 1, 9, 10] rfl (ih _ (by omega) (n8 + 1) (1) (sA 86 (0) ((σ.2.1 86 0) + 1) σ5) (((Fr.rfl.trans (Fr.sub hF (by decide) (by decide) (by decide))).trans (Fr.sub f7 (by decide) (by decide) (by decide))).A (by decide)) (f8.A (by omega)) (by omega) (k2.fr (show Fr [] [86] [] σ5 (sA 86 (0) ((σ.2.1 86 0) + 1) σ5) from (Fr.rfl.A (by decide))) (by decide)) (k3.fr (show Fr [] [86] [] σ5 (sA 86 (0) ((σ.2.1 86 0) + 1) σ5) from (Fr.rfl.A (by decide))) (by decide)) (k4.fr (show Fr [] [86] [] σ5 (sA 86 (0) ((σ.2.1 86 0) + 1) σ5) from (Fr.rfl.A (by decide))) (by decide)) (k5.fr (show Fr [] [86] [] σ5 (sA 86 (0) ((σ.2.1 86 0) + 1) σ5) from (Fr.rfl.A (by decide))) (by decide)) (k6.fr (show Fr [] [86] [] σ5 (sA 86 (0) ((σ.2.1 86 0) + 1) σ5) from (Fr.rfl.A (by decide))) (by decide)) (by rw [(show (sA 86 (0) ((σ.2.1 86 0) + 1) σ5).2.1 86 0 = (σ.2.1 86 0) + 1 from ra_eq), (show (sA 86 (0) ((σ.2.1 86 0) + 1) σ5).2.1 86 1 = σ.2.1 86 1 from ra_ne (by omega) (ra_F f7 (by decide) (rfl)))]; omega) rfl)
