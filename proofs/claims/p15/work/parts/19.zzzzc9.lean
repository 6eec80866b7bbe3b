section
set_option maxHeartbeats 2000000 in
set_option maxRecDepth 20000 in
theorem f_areA2 (d : Nat) {b : Nat} {σ0 : MS} {k : Int} {r3 : Int} {x4 : Int} {c5 : Int} {f6 : Int} {c7 : Int} {post : Option Value → MS → Prop} (hR0 : RG σ0) (hit : ITM σ0) (hpar : PAR σ0) (hnam : NAM σ0) (hgd : GDA σ0) (hgg : (0 ≤ σ0.1 83 ∧ σ0.1 83 < 27) ∧ (0 ≤ σ0.2.1 78 (σ0.1 83) ∧ σ0.2.1 78 (σ0.1 83) < σ0.1 10) ∧ (0 ≤ σ0.2.1 79 (σ0.1 83) ∧ σ0.2.1 79 (σ0.1 83) ≤ 219) ∧ (0 ≤ σ0.1 84 ∧ σ0.1 84 < 12)) (hr3 : 0 ≤ r3 ∧ r3 < 6) (hc7 : 0 ≤ c7 ∧ c7 < 27) (hC : (0 ≤ σ0.2.1 86 0 ∧ σ0.2.1 86 0 ≤ 1000000000) ∧ 0 ≤ σ0.2.1 86 1 ∧ σ0.2.1 86 1 ≤ 1000000000) (hx_241 : ∀ (n8 : Int) (a : Int) (σ : MS) , (Fr [] [46, 47, 48, 49, 50, 51, 52, 53, 54, 55, 56, 57, 58, 86] [] σ0 σ) → (RG σ) → (a = 0 ∨ a = 1) → (LAB σ) → (BO 47 σ) → (BO 48 σ) → (SSA σ) → (SCH σ) → ((σ0.2.1 86 0 ≤ σ.2.1 86 0 ∧ σ.2.1 86 0 ≤ σ0.2.1 86 0 + 12) ∧ σ0.2.1 86 1 ≤ σ.2.1 86 1 ∧ σ.2.1 86 1 ≤ σ0.2.1 86 1 + 12) → Tm (d + 8) m_X12_areAlike 241 b σ [(1, .int (iI a)), (2, .int (iI k)), (0, .ref b)] [] post) : ∀ (n : Nat) (n8 : Int) (a : Int) (σ : MS) , (Fr [] [46, 47, 48, 49, 50, 51, 52, 53, 54, 55, 56, 57, 58, 86] [] σ0 σ) → (RG σ) → (0 ≤ n8 ∧ n8 ≤ 12 ∧ (a = 0 ∨ a = 1)) → (LAB σ) → (BO 47 σ) → (BO 48 σ) → (SSA σ) → (SCH σ) → ((σ0.2.1 86 0 ≤ σ.2.1 86 0 ∧ σ.2.1 86 0 ≤ σ0.2.1 86 0 + n8) ∧ σ0.2.1 86 1 ≤ σ.2.1 86 1 ∧ σ.2.1 86 1 ≤ σ0.2.1 86 1 + n8) → (12 - n8).toNat = n → Tm (d + 8) m_X12_areAlike 140 b σ [(8, .int (iI n8)), (7, .int (iI c7)), (6, .int (iI f6)), (5, .int (iI c5)), (4, .int (iI x4)), (3, .int (iI r3)), (1, .int (iI a)), (2, .int (iI k)), (0, .ref b)] [] post := by
  intro n
  induction n using Nat.strongRecOn with
  | _ n ih =>
    intro n8 a σ hF hR h0 hl hbo hbh hss hsc hcb hm
    have hnm := hnam r3 (by omega) (by omega)
    have hg1 := hgg
    rw [← hF.2.1 78 (by decide), ← hF.1 83 (by decide), ← hF.1 84 (by decide), ← hF.2.1 79 (by decide), ← hF.1 10 (by decide)] at hg1
    have hg1c := hg1.1
    refine tm_iload dX12_areAlike_140 0 rfl ?_
    refine tm_aload_n dX12_areAlike_142 rfl 8 rfl ?_
    refine tm_get (k := 12) (v := .ref (b + 1 + 9)) lay_12 dX12_areAlike_143 (by decide) fl12_38 rfl ?_
    refine tm_iload_n dX12_areAlike_146 rfl 5 rfl ?_
    refine tm_iald (z := r3) (v := σ0.2.1 12 r3) dX12_areAlike_147 (show mT[9]? = some (12, 0, 6) from rfl) (by omega) (by omega) (by decide) (ra_F hF (by decide) (rfl)) ?_
    have g1 := RG.a hR0 12 (r3)
    refine tm_icmp_ge (tgt := 241) dX12_areAlike_148 (by decide) ⟨by omega, by omega⟩ ⟨by omega, by omega⟩ (fun h2 => ?_) (fun h2 => ?_)
    · exact tm_sub [6, 7, 8] rfl (hx_241 (0) (a) σ (Fr.rfl.trans (Fr.sub hF (by decide) (by decide) (by decide))) hR (by omega) hl hbo hbh hss hsc (by omega))
    · refine tm_iload_n dX12_areAlike_151 rfl 6 rfl ?_
      refine tm_if_eq (tgt := 241) dX12_areAlike_152 (by decide) ⟨by omega, by omega⟩ (fun h3 => ?_) (fun h3 => ?_)
      · exact tm_sub [6, 7, 8] rfl (hx_241 (0) (a) σ (Fr.rfl.trans (Fr.sub hF (by decide) (by decide) (by decide))) hR (by omega) hl hbo hbh hss hsc (by omega))
      · refine tm_aload_n dX12_areAlike_155 rfl 8 rfl ?_
        refine tm_iload dX12_areAlike_156 0 rfl ?_
        refine tm_callV (M := m_X12_areAlike) (pc := 158) (ix := 587) (M' := m_X12_stateAt) (As := [.int (iI n8)]) (rest := []) dX12_areAlike_158 ok_X12_stateAt im_X12_stateAt se_X12_stateAt ml12_587 np_X12_stateAt rfl rfl (Nat.le_of_ble_eq_true rfl) (Nat.le_of_ble_eq_true rfl) rfl (f_X12_stateAt (d + 1) (σ := σ) (n := n8) hR (hit.fr hF (by decide)) (hpar.fr hF (by decide)) (hnam.fr hF (by decide)) (hgd.fr hF (by decide) (by decide)).rtn hl hbo hbh hss hsc hg1 (by omega)) (fun r4 σ5 hp => ?_)
        obtain ⟨v6, rfl, f7, f8, f9, f10, f11, f12, f13, f14, f15, f16⟩ := hp
        show Tm _ _ 161 b σ5 [(8, .int (iI n8)), (7, .int (iI c7)), (6, .int (iI f6)), (5, .int (iI c5)), (4, .int (iI x4)), (3, .int (iI r3)), (1, .int (iI a)), (2, .int (iI k)), (0, .ref b)] [.int (iI v6)] _
        have k2 := f9
        have k3 := f10
        have k4 := f11
        have k5 := f12
        have k6 := f13
        refine tm_istore (L' := [(9, .int (iI v6)), (8, .int (iI n8)), (7, .int (iI c7)), (6, .int (iI f6)), (5, .int (iI c5)), (4, .int (iI x4)), (3, .int (iI r3)), (1, .int (iI a)), (2, .int (iI k)), (0, .ref b)]) dX12_areAlike_161 (by decide) rfl ?_
        refine tm_aload_n dX12_areAlike_163 rfl 9 rfl ?_
        refine tm_get (k := 49) (v := .ref (b + 1 + 27)) lay_12 dX12_areAlike_164 (by decide) fl12_99 rfl ?_
        refine tm_iload dX12_areAlike_167 0 rfl ?_
        refine tm_iald (z := v6) (v := σ5.2.1 49 v6) dX12_areAlike_169 (show mT[27]? = some (49, 0, 190944) from rfl) (by omega) (by omega) (by decide) (rfl) ?_
        have g17 := RG.a f8 49 (v6)
        refine tm_bipush dX12_areAlike_170 (by decide) ?_
        refine tm_icmp_ge (tgt := 179) dX12_areAlike_172 (by decide) ⟨by omega, by omega⟩ ⟨by decide, by decide⟩ (fun h18 => ?_) (fun h18 => ?_)
        · refine tm_iconst dX12_areAlike_179 ?_
          refine tm_istore (L' := [(10, .int (iI 0)), (9, .int (iI v6)), (8, .int (iI n8)), (7, .int (iI c7)), (6, .int (iI f6)), (5, .int (iI c5)), (4, .int (iI x4)), (3, .int (iI r3)), (1, .int (iI a)), (2, .int (iI k)), (0, .ref b)]) dX12_areAlike_180 (by decide) rfl ?_
          refine tm_aload_n dX12_areAlike_182 rfl 10 rfl ?_
          refine tm_get (k := 86) (v := .ref (b + 1 + 54)) lay_12 dX12_areAlike_183 (by decide) fl12_182 rfl ?_
          refine tm_iload dX12_areAlike_186 0 rfl ?_
          refine tm_if_eq (tgt := 195) dX12_areAlike_188 (by decide) ⟨by decide, by decide⟩ (fun _ => ?_) (fun h => absurd h (by decide))
          refine tm_iconst dX12_areAlike_195 ?_
          refine tm_dup2 dX12_areAlike_196 rfl rfl ?_
          refine tm_iald (z := 1) (v := σ.2.1 86 1) dX12_areAlike_197 (show mT[54]? = some (86, 0, 3) from rfl) (by omega) (by omega) (by decide) (ra_F f7 (by decide) (rfl)) ?_
          have g20 := RG.a hR 86 (1)
          refine tm_iconst dX12_areAlike_198 ?_
          refine tm_iadd dX12_areAlike_199 ?_
          refine tm_iast (z := 1) (v := (σ.2.1 86 1) + 1) dX12_areAlike_200 (show mT[54]? = some (86, 0, 3) from rfl) (by omega) (by omega) (by decide) ?_
          refine tm_iload dX12_areAlike_201 0 rfl ?_
          refine tm_if_eq (tgt := 229) dX12_areAlike_203 (by decide) ⟨by decide, by decide⟩ (fun _ => ?_) (fun h => absurd h (by decide))
          refine tm_iconst dX12_areAlike_229 ?_
          refine tm_goto (tgt := 234) dX12_areAlike_230 (by decide) ?_
          refine tm_istore_n (L' := [(1, .int (iI 1)), (10, .int (iI 0)), (9, .int (iI v6)), (8, .int (iI n8)), (7, .int (iI c7)), (6, .int (iI f6)), (5, .int (iI c5)), (4, .int (iI x4)), (3, .int (iI r3)), (2, .int (iI k)), (0, .ref b)]) dX12_areAlike_234 rfl (by decide) rfl ?_
          refine tm_iinc (q0 := 3) (L' := [(8, .int (iI (n8 + 1))), (1, .int (iI 1)), (10, .int (iI 0)), (9, .int (iI v6)), (7, .int (iI c7)), (6, .int (iI f6)), (5, .int (iI c5)), (4, .int (iI x4)), (3, .int (iI r3)), (2, .int (iI k)), (0, .ref b)]) dX12_areAlike_235 rfl (by decide) rfl ?_
          refine tm_goto (tgt := 140) dX12_areAlike_238 (by decide) ?_
          exact tm_sub [0, 4, 5, 6, 7, 8, 1, 9, 10] rfl (ih _ (by omega) (n8 + 1) (1) (sA 86 (1) ((σ.2.1 86 1) + 1) σ5) (((Fr.rfl.trans (Fr.sub hF (by decide) (by decide) (by decide))).trans (Fr.sub f7 (by decide) (by decide) (by decide))).A (by decide)) (f8.A (by omega)) (by omega) (k2.fr (show Fr [] [86] [] σ5 (sA 86 (1) ((σ.2.1 86 1) + 1) σ5) from (Fr.rfl.A (by decide))) (by decide)) (k3.fr (show Fr [] [86] [] σ5 (sA 86 (1) ((σ.2.1 86 1) + 1) σ5) from (Fr.rfl.A (by decide))) (by decide)) (k4.fr (show Fr [] [86] [] σ5 (sA 86 (1) ((σ.2.1 86 1) + 1) σ5) from (Fr.rfl.A (by decide))) (by decide)) (k5.fr (show Fr [] [86] [] σ5 (sA 86 (1) ((σ.2.1 86 1) + 1) σ5) from (Fr.rfl.A (by decide))) (by decide)) (k6.fr (show Fr [] [86] [] σ5 (sA 86 (1) ((σ.2.1 86 1) + 1) σ5) from (Fr.rfl.A (by decide))) (by decide)) (by rw [(show (sA 86 (1) ((σ.2.1 86 1) + 1) σ5).2.1 86 0 = σ.2.1 86 0 from ra_ne (by omega) (ra_F f7 (by decide) (rfl))), (show (sA 86 (1) ((σ.2.1 86 1) + 1) σ5).2.1 86 1 = (σ.2.1 86 1) + 1 from ra_eq)]; omega) rfl)
        · refine tm_iconst dX12_areAlike_175 ?_
          refine tm_goto (tgt := 180) dX12_areAlike_176 (by decide) ?_
          refine tm_istore (L' := [(10, .int (iI 1)), (9, .int (iI v6)), (8, .int (iI n8)), (7, .int (iI c7)), (6, .int (iI f6)), (5, .int (iI c5)), (4, .int (iI x4)), (3, .int (iI r3)), (1, .int (iI a)), (2, .int (iI k)), (0, .ref b)]) dX12_areAlike_180 (by decide) rfl ?_
          refine tm_aload_n dX12_areAlike_182 rfl 10 rfl ?_
          refine tm_get (k := 86) (v := .ref (b + 1 + 54)) lay_12 dX12_areAlike_183 (by decide) fl12_182 rfl ?_
          refine tm_iload dX12_areAlike_186 0 rfl ?_
          refine tm_if_eq (tgt := 195) dX12_areAlike_188 (by decide) ⟨by decide, by decide⟩ (fun h => absurd h (by decide)) (fun _ => ?_)
          refine tm_iconst dX12_areAlike_191 ?_
          refine tm_goto (tgt := 196) dX12_areAlike_192 (by decide) ?_
          refine tm_dup2 dX12_areAlike_196 rfl rfl ?_
          refine tm_iald (z := 0) (v := σ.2.1 86 0) dX12_areAlike_197 (show mT[54]? = some (86, 0, 3) from rfl) (by omega) (by omega) (by decide) (ra_F f7 (by decide) (rfl)) ?_
          have g23 := RG.a hR 86 (0)
          refine tm_iconst dX12_areAlike_198 ?_
          refine tm_iadd dX12_areAlike_199 ?_
          refine tm_iast (z := 0) (v := (σ.2.1 86 0) + 1) dX12_areAlike_200 (show mT[54]? = some (86, 0, 3) from rfl) (by omega) (by omega) (by decide) ?_
          refine tm_iload dX12_areAlike_201 0 rfl ?_
          refine tm_if_eq (tgt := 229) dX12_areAlike_203 (by decide) ⟨by decide, by decide⟩ (fun h => absurd h (by decide)) (fun _ => ?_)
          refine tm_aload_n dX12_areAlike_206 rfl 10 rfl ?_
          refine tm_iload dX12_areAlike_207 1 rfl ?_
          refine tm_callV (M := m_X12_areAlike) (pc := 209) (ix := 590) (M' := m_X12_stateWorth) (As := [.int (iI v6)]) (rest := []) dX12_areAlike_209 ok_X12_stateWorth im_X12_stateWorth se_X12_stateWorth ml12_590 np_X12_stateWorth rfl rfl (Nat.le_of_ble_eq_true rfl) (Nat.le_of_ble_eq_true rfl) rfl (c_X12_stateWorth (d + 5) (σ := (sA 86 (0) ((σ.2.1 86 0) + 1) σ5)) (y := v6) (f8.A (by omega)) (by rw [show (sA 86 (0) ((σ.2.1 86 0) + 1) σ5).1 83 = σ.1 83 from rs_A (rs_F f7 (by decide) rfl)]; omega) (by omega) (k5.fr (show Fr [] [86] [] σ5 (sA 86 (0) ((σ.2.1 86 0) + 1) σ5) from (Fr.rfl.A (by decide))) (by decide))) (fun r25 σ26 hp => ?_)
          obtain ⟨v27, rfl, rfl, f28⟩ := hp
          show Tm _ _ 212 b (sA 86 (0) ((σ.2.1 86 0) + 1) σ5) [(10, .int (iI 1)), (9, .int (iI v6)), (8, .int (iI n8)), (7, .int (iI c7)), (6, .int (iI f6)), (5, .int (iI c5)), (4, .int (iI x4)), (3, .int (iI r3)), (1, .int (iI a)), (2, .int (iI k)), (0, .ref b)] [.int (iI v27)] _
          refine tm_aload_n dX12_areAlike_212 rfl 10 rfl ?_
          refine tm_get (k := 82) (v := .ref (b + 1 + 53)) lay_12 dX12_areAlike_213 (by decide) fl12_179 rfl ?_
          refine tm_sipush dX12_areAlike_216 (by decide) ?_
          refine tm_iload dX12_areAlike_219 3 rfl ?_
          refine tm_imul dX12_areAlike_221 ?_
          refine tm_iload dX12_areAlike_222 2 rfl ?_
          refine tm_iadd dX12_areAlike_224 ?_
          refine tm_iald (z := (192 * c7) + n8) (v := σ0.2.1 82 ((192 * c7) + n8)) dX12_areAlike_225 (show mT[53]? = some (82, 0, 5184) from rfl) (by omega) (by omega) (by decide) (ra_o (by decide) (ra_F f7 (by decide) (ra_F hF (by decide) (rfl)))) ?_
          have g29 := RG.a hR0 82 ((192 * c7) + n8)
          refine tm_icmp_ne (tgt := 233) dX12_areAlike_226 (by decide) ⟨by omega, by omega⟩ ⟨by omega, by omega⟩ (fun h32 => ?_) (fun h32 => ?_)
          · refine tm_iconst dX12_areAlike_233 ?_
            refine tm_istore_n (L' := [(1, .int (iI 0)), (10, .int (iI 1)), (9, .int (iI v6)), (8, .int (iI n8)), (7, .int (iI c7)), (6, .int (iI f6)), (5, .int (iI c5)), (4, .int (iI x4)), (3, .int (iI r3)), (2, .int (iI k)), (0, .ref b)]) dX12_areAlike_234 rfl (by decide) rfl ?_
            refine tm_iinc (q0 := 3) (L' := [(8, .int (iI (n8 + 1))), (1, .int (iI 0)), (10, .int (iI 1)), (9, .int (iI v6)), (7, .int (iI c7)), (6, .int (iI f6)), (5, .int (iI c5)), (4, .int (iI x4)), (3, .int (iI r3)), (2, .int (iI k)), (0, .ref b)]) dX12_areAlike_235 rfl (by decide) rfl ?_
            refine tm_goto (tgt := 140) dX12_areAlike_238 (by decide) ?_
            exact tm_sub [0, 4, 5, 6, 7, 8, 1, 9, 10] rfl (ih _ (by omega) (n8 + 1) (0) (sA 86 (0) ((σ.2.1 86 0) + 1) σ5) (((Fr.rfl.trans (Fr.sub hF (by decide) (by decide) (by decide))).trans (Fr.sub f7 (by decide) (by decide) (by decide))).A (by decide)) (f8.A (by omega)) (by omega) (k2.fr (show Fr [] [86] [] σ5 (sA 86 (0) ((σ.2.1 86 0) + 1) σ5) from (Fr.rfl.A (by decide))) (by decide)) (k3.fr (show Fr [] [86] [] σ5 (sA 86 (0) ((σ.2.1 86 0) + 1) σ5) from (Fr.rfl.A (by decide))) (by decide)) (k4.fr (show Fr [] [86] [] σ5 (sA 86 (0) ((σ.2.1 86 0) + 1) σ5) from (Fr.rfl.A (by decide))) (by decide)) (k5.fr (show Fr [] [86] [] σ5 (sA 86 (0) ((σ.2.1 86 0) + 1) σ5) from (Fr.rfl.A (by decide))) (by decide)) (k6.fr (show Fr [] [86] [] σ5 (sA 86 (0) ((σ.2.1 86 0) + 1) σ5) from (Fr.rfl.A (by decide))) (by decide)) (by rw [(show (sA 86 (0) ((σ.2.1 86 0) + 1) σ5).2.1 86 0 = (σ.2.1 86 0) + 1 from ra_eq), (show (sA 86 (0) ((σ.2.1 86 0) + 1) σ5).2.1 86 1 = σ.2.1 86 1 from ra_ne (by omega) (ra_F f7 (by decide) (rfl)))]; omega) rfl)
          · refine tm_iconst dX12_areAlike_229 ?_
            refine tm_goto (tgt := 234) dX12_areAlike_230 (by decide) ?_
            refine tm_istore_n (L' := [(1, .int (iI 1)), (10, .int (iI 1)), (9, .int (iI v6)), (8, .int (iI n8)), (7, .int (iI c7)), (6, .int (iI f6)), (5, .int (iI c5)), (4, .int (iI x4)), (3, .int (iI r3)), (2, .int (iI k)), (0, .ref b)]) dX12_areAlike_234 rfl (by decide) rfl ?_
            refine tm_iinc (q0 := 3) (L' := [(8, .int (iI (n8 + 1))), (1, .int (iI 1)), (10, .int (iI 1)), (9, .int (iI v6)), (7, .int (iI c7)), (6, .int (iI f6)), (5, .int (iI c5)), (4, .int (iI x4)), (3, .int (iI r3)), (2, .int (iI k)), (0, .ref b)]) dX12_areAlike_235 rfl (by decide) rfl ?_
            refine tm_goto (tgt := 140) dX12_areAlike_238 (by decide) ?_
            exact tm_sub [0, 4, 5, 6, 7, 8, 1, 9, 10] rfl (ih _ (by omega) (n8 + 1) (1) (sA 86 (0) ((σ.2.1 86 0) + 1) σ5) (((Fr.rfl.trans (Fr.sub hF (by decide) (by decide) (by decide))).trans (Fr.sub f7 (by decide) (by decide) (by decide))).A (by decide)) (f8.A (by omega)) (by omega) (k2.fr (show Fr [] [86] [] σ5 (sA 86 (0) ((σ.2.1 86 0) + 1) σ5) from (Fr.rfl.A (by decide))) (by decide)) (k3.fr (show Fr [] [86] [] σ5 (sA 86 (0) ((σ.2.1 86 0) + 1) σ5) from (Fr.rfl.A (by decide))) (by decide)) (k4.fr (show Fr [] [86] [] σ5 (sA 86 (0) ((σ.2.1 86 0) + 1) σ5) from (Fr.rfl.A (by decide))) (by decide)) (k5.fr (show Fr [] [86] [] σ5 (sA 86 (0) ((σ.2.1 86 0) + 1) σ5) from (Fr.rfl.A (by decide))) (by decide)) (k6.fr (show Fr [] [86] [] σ5 (sA 86 (0) ((σ.2.1 86 0) + 1) σ5) from (Fr.rfl.A (by decide))) (by decide)) (by rw [(show (sA 86 (0) ((σ.2.1 86 0) + 1) σ5).2.1 86 0 = (σ.2.1 86 0) + 1 from ra_eq), (show (sA 86 (0) ((σ.2.1 86 0) + 1) σ5).2.1 86 1 = σ.2.1 86 1 from ra_ne (by omega) (ra_F f7 (by decide) (rfl)))]; omega) rfl)
set_option maxHeartbeats 2000000 in
set_option maxRecDepth 20000 in
theorem f_areA1 (d : Nat) {b : Nat} {σ0 : MS} {post : Option Value → MS → Prop} (hR0 : RG σ0) (hit : ITM σ0) (hpar : PAR σ0) (hnam : NAM σ0) (hgd : GDA σ0) (hr1 : RUN σ0 1) (hr2 : RUN σ0 2) (hb2 : BKA σ0 2) (hC : (0 ≤ σ0.2.1 86 0 ∧ σ0.2.1 86 0 ≤ 900000000) ∧ 0 ≤ σ0.2.1 86 1 ∧ σ0.2.1 86 1 ≤ 900000000) (hx_247 : ∀ (a : Int) (k : Int) (σ : MS) , (Fr [83, 84] [46, 47, 48, 49, 50, 51, 52, 53, 54, 55, 56, 57, 58, 86] [] σ0 σ) → (RG σ) → (a = 0 ∨ a = 1) → (LAB σ) → (BO 47 σ) → (BO 48 σ) → (SSA σ) → (SCH σ) → ((σ0.2.1 86 0 ≤ σ.2.1 86 0 ∧ σ.2.1 86 0 ≤ σ0.2.1 86 0 + 1416) ∧ σ0.2.1 86 1 ≤ σ.2.1 86 1 ∧ σ.2.1 86 1 ≤ σ0.2.1 86 1 + 1416) → Tm (d + 8) m_X12_areAlike 247 b σ [(2, .int (iI k)), (1, .int (iI a)), (0, .ref b)] [] post) : ∀ (n : Nat) (a : Int) (k : Int) (σ : MS) , (Fr [83, 84] [46, 47, 48, 49, 50, 51, 52, 53, 54, 55, 56, 57, 58, 86] [] σ0 σ) → (RG σ) → (0 ≤ k ∧ k ≤ 118 ∧ (a = 0 ∨ a = 1)) → (LAB σ) → (BO 47 σ) → (BO 48 σ) → (SSA σ) → (SCH σ) → ((σ0.2.1 86 0 ≤ σ.2.1 86 0 ∧ σ.2.1 86 0 ≤ σ0.2.1 86 0 + 12 * k) ∧ σ0.2.1 86 1 ≤ σ.2.1 86 1 ∧ σ.2.1 86 1 ≤ σ0.2.1 86 1 + 12 * k) → (118 - k).toNat = n → Tm (d + 8) m_X12_areAlike 28 b σ [(2, .int (iI k)), (1, .int (iI a)), (0, .ref b)] [] post := by
  intro n
  induction n using Nat.strongRecOn with
  | _ n ih =>
    intro a k σ hF hR h0 hl hbo hbh hss hsc hcb hm
    refine tm_iload_n dX12_areAlike_28 rfl 1 rfl ?_
    refine tm_if_eq (tgt := 247) dX12_areAlike_29 (by decide) ⟨by omega, by omega⟩ (fun h1 => ?_) (fun h1 => ?_)
    · exact tm_sub [0, 1, 2] rfl (hx_247 (a) (k) σ (Fr.rfl.trans (Fr.sub hF (by decide) (by decide) (by decide))) hR (by omega) hl hbo hbh hss hsc (by omega))
    · have hgd2 := hgd.fr hF (by decide) (by decide)
      have hb1s := hgd2.bka (m := 1) (by decide)
      have hb2s := hb2.fr hF (by decide) (by decide)
      have hr1s := hr1.fr hF (by decide) (by decide)
      have hr2s := hr2.fr hF (by decide) (by decide)
      have hd1 := hr1s.hd hb1s
      refine tm_aload_n dX12_areAlike_32 rfl 2 rfl ?_
      refine tm_iconst dX12_areAlike_33 ?_
      refine tm_iload_n dX12_areAlike_34 rfl 0 rfl ?_
      refine tm_callV (M := m_X12_areAlike) (pc := 35) (ix := 578) (M' := m_X12_isFrame) (As := [.int (iI 1), .int (iI k)]) (rest := []) dX12_areAlike_35 ok_X12_isFrame im_X12_isFrame se_X12_isFrame ml12_578 np_X12_isFrame rfl rfl (Nat.le_of_ble_eq_true rfl) (Nat.le_of_ble_eq_true rfl) rfl (c2_X12_isFrame (d + 6) (σ := σ) (m := 1) (k := k) hR (by decide) hd1.1 hd1.2 (by omega)) (fun r2 σ3 hp => ?_)
      obtain ⟨v4, rfl, f5, f6, f7, f8, f9, f10⟩ := hp
      show Tm _ _ 38 b σ3 [(2, .int (iI k)), (1, .int (iI a)), (0, .ref b)] [.int (iI v4)] _
      refine tm_if_eq (tgt := 247) dX12_areAlike_38 (by decide) ⟨by omega, by omega⟩ (fun h11 => ?_) (fun h11 => ?_)
      · exact tm_sub [0, 1, 2] rfl (hx_247 (a) (k) σ3 ((Fr.rfl.trans (Fr.sub hF (by decide) (by decide) (by decide))).trans (Fr.sub f6 (by decide) (by decide) (by decide))) f7 (by omega) (hl.fr f6 (by decide)) (hbo.fr f6 (by decide)) (hbh.fr f6 (by decide)) (hss.fr f6 (by decide)) (hsc.fr f6 (by decide)) (by rw [f6.2.1 86 (by decide)]; omega))
      · have gt := f8 (by omega)
        have hk117 := f9 (by omega)
        have hpl := hr1s.2.1 (σ3.1 83) (by omega) (by have := gt.2.1; omega)
        have hpl1 := hpl.1
        have hpl2 := hpl.2.1
        have hgr := hgd2.2 _ hpl1.1 hpl1.2
        have hofr := hgr.2.1
        have hfn : fn σ 1 (σ3.1 83) = σ.2.1 14 (σ.2.1 78 (σ3.1 83)) := if_neg (by decide)
        have hfr := hofr.2 (σ3.1 84) (by omega) (by omega)
        have hofr1 := hofr.1
        have h61 := hgd2.1
        have hmc1 := hd1.1
        have hit9 := hgr.1
        have hbk0 : bkm 1 = 0 := if_neg (by decide)
        rw [hbk0, Int.zero_add] at hpl2
        refine tm_aload_n dX12_areAlike_41 rfl 2 rfl ?_
        refine tm_iconst dX12_areAlike_42 ?_
        refine tm_callV (M := m_X12_areAlike) (pc := 43) (ix := 584) (M' := m_X12_routineIn) (As := [.int (iI 1)]) (rest := []) dX12_areAlike_43 ok_X12_routineIn im_X12_routineIn se_X12_routineIn ml12_584 np_X12_routineIn rfl rfl (Nat.le_of_ble_eq_true rfl) (Nat.le_of_ble_eq_true rfl) rfl (c_X12_routineIn (d + 6) (σ := σ3) (m := 1) f7 (by omega) (by intro _; rw [f6.2.1 78 (by decide)]; omega) (by omega)) (fun r12 σ13 hp => ?_)
        obtain ⟨v14, rfl, rfl, f15, f16⟩ := hp
        show Tm _ _ 46 b σ3 [(2, .int (iI k)), (1, .int (iI a)), (0, .ref b)] [.int (iI v14)] _
        have hv3 := f16 (by decide)
        rw [f6.2.1 15 (by decide), f6.2.1 78 (by decide)] at hv3
        have hr3b : 0 ≤ v14 ∧ v14 < 6 := by rw [hv3]; exact hfr.1
        refine tm_istore_n (L' := [(3, .int (iI v14)), (2, .int (iI k)), (1, .int (iI a)), (0, .ref b)]) dX12_areAlike_46 rfl (by decide) rfl ?_
        refine tm_aload_n dX12_areAlike_47 rfl 3 rfl ?_
        refine tm_get (k := 81) (v := .ref (b + 1 + 52)) lay_12 dX12_areAlike_48 (by decide) fl12_176 rfl ?_
        refine tm_bipush dX12_areAlike_51 (by decide) ?_
        refine tm_aload_n dX12_areAlike_53 rfl 3 rfl ?_
        refine tm_getS (k := 83) (t := σ3.1 83) dX12_areAlike_54 (by decide) fl12_572 rfl (rfl) ?_
        have g17 := RG.s f7 83
        refine tm_imul dX12_areAlike_57 ?_
        refine tm_aload_n dX12_areAlike_58 rfl 3 rfl ?_
        refine tm_getS (k := 84) (t := σ3.1 84) dX12_areAlike_59 (by decide) fl12_575 rfl (rfl) ?_
        have g18 := RG.s f7 84
        refine tm_iadd dX12_areAlike_62 ?_
        refine tm_iald (z := (12 * (σ3.1 83)) + (σ3.1 84)) (v := σ0.2.1 81 ((12 * (σ3.1 83)) + (σ3.1 84))) dX12_areAlike_63 (show mT[52]? = some (81, 0, 324) from rfl) (by omega) (by omega) (by decide) (ra_F f6 (by decide) (ra_F hF (by decide) (rfl))) ?_
        have g19 := RG.a hR0 81 ((12 * (σ3.1 83)) + (σ3.1 84))
        refine tm_istore (L' := [(4, .int (iI (σ0.2.1 81 ((12 * (σ3.1 83)) + (σ3.1 84))))), (3, .int (iI v14)), (2, .int (iI k)), (1, .int (iI a)), (0, .ref b)]) dX12_areAlike_64 (by decide) rfl ?_
        refine tm_aload_n dX12_areAlike_66 rfl 4 rfl ?_
        refine tm_getS (k := 83) (t := σ3.1 83) dX12_areAlike_67 (by decide) fl12_572 rfl (rfl) ?_
        have g20 := RG.s f7 83
        refine tm_istore (L' := [(5, .int (iI (σ3.1 83))), (4, .int (iI (σ0.2.1 81 ((12 * (σ3.1 83)) + (σ3.1 84))))), (3, .int (iI v14)), (2, .int (iI k)), (1, .int (iI a)), (0, .ref b)]) dX12_areAlike_70 (by decide) rfl ?_
        refine tm_aload_n dX12_areAlike_72 rfl 5 rfl ?_
        refine tm_getS (k := 84) (t := σ3.1 84) dX12_areAlike_73 (by decide) fl12_575 rfl (rfl) ?_
        have g21 := RG.s f7 84
        refine tm_istore (L' := [(6, .int (iI (σ3.1 84))), (5, .int (iI (σ3.1 83))), (4, .int (iI (σ0.2.1 81 ((12 * (σ3.1 83)) + (σ3.1 84))))), (3, .int (iI v14)), (2, .int (iI k)), (1, .int (iI a)), (0, .ref b)]) dX12_areAlike_76 (by decide) rfl ?_
        have hr2t := hr2s.fr f6 (by decide) (by decide)
        have hb2t := hb2s.fr f6 (by decide) (by decide)
        have hd2 := hr2t.hd hb2t
        have hc5 : σ3.1 83 = σ3.1 83 := rfl
        refine tm_aload_n dX12_areAlike_78 rfl 6 rfl ?_
        refine tm_iconst dX12_areAlike_79 ?_
        refine tm_iload_n dX12_areAlike_80 rfl 4 rfl ?_
        refine tm_callV (M := m_X12_areAlike) (pc := 81) (ix := 578) (M' := m_X12_isFrame) (As := [.int (iI 2), .int (iI k)]) (rest := []) dX12_areAlike_81 ok_X12_isFrame im_X12_isFrame se_X12_isFrame ml12_578 np_X12_isFrame rfl rfl (Nat.le_of_ble_eq_true rfl) (Nat.le_of_ble_eq_true rfl) rfl (c2_X12_isFrame (d + 6) (σ := σ3) (m := 2) (k := k) f7 (by decide) hd2.1 hd2.2 (by omega)) (fun r22 σ23 hp => ?_)
        obtain ⟨v24, rfl, f25, f26, f27, f28, f29, f30⟩ := hp
        show Tm _ _ 84 b σ23 [(6, .int (iI (σ3.1 84))), (5, .int (iI (σ3.1 83))), (4, .int (iI (σ0.2.1 81 ((12 * (σ3.1 83)) + (σ3.1 84))))), (3, .int (iI v14)), (2, .int (iI k)), (1, .int (iI a)), (0, .ref b)] [.int (iI v24)] _
        have gt2 := f28
        have ge2 := f30
        have hmc2 := hd2.1
        have hfn2 : ∀ c, fn σ3 2 c = 1 := fun c => if_pos rfl
        have hc7 : 0 ≤ σ23.1 83 ∧ σ23.1 83 < 27 := by rcases (show v24 = 0 ∨ v24 = 1 from f25) with q | q; rw [ge2 q]; omega; have := gt2 q; omega
        refine tm_if_eq (tgt := 117) dX12_areAlike_84 (by decide) ⟨by omega, by omega⟩ (fun h32 => ?_) (fun h32 => ?_)
        · refine tm_iconst dX12_areAlike_117 ?_
          refine tm_istore_n (L' := [(1, .int (iI 0)), (6, .int (iI (σ3.1 84))), (5, .int (iI (σ3.1 83))), (4, .int (iI (σ0.2.1 81 ((12 * (σ3.1 83)) + (σ3.1 84))))), (3, .int (iI v14)), (2, .int (iI k)), (0, .ref b)]) dX12_areAlike_118 rfl (by decide) rfl ?_
          refine tm_aload_n dX12_areAlike_119 rfl 6 rfl ?_
          refine tm_getS (k := 83) (t := σ23.1 83) dX12_areAlike_120 (by decide) fl12_572 rfl (rfl) ?_
          have g33 := RG.s f27 83
          refine tm_istore (L' := [(7, .int (iI (σ23.1 83))), (1, .int (iI 0)), (6, .int (iI (σ3.1 84))), (5, .int (iI (σ3.1 83))), (4, .int (iI (σ0.2.1 81 ((12 * (σ3.1 83)) + (σ3.1 84))))), (3, .int (iI v14)), (2, .int (iI k)), (0, .ref b)]) dX12_areAlike_123 (by decide) rfl ?_
          refine tm_aload_n dX12_areAlike_125 rfl 7 rfl ?_
          refine tm_iload dX12_areAlike_126 3 rfl ?_
          refine tm_putS (k := 83) (v := σ3.1 83) lay_12 dX12_areAlike_128 (by decide) fl12_572 rfl (tyX12_ok 83 (by decide)) rfl rfl rfl ?_
          refine tm_aload_n dX12_areAlike_131 rfl 7 rfl ?_
          refine tm_iload dX12_areAlike_132 2 rfl ?_
          refine tm_putS (k := 84) (v := σ3.1 84) lay_12 dX12_areAlike_134 (by decide) fl12_575 rfl (tyX12_ok 84 (by decide)) rfl rfl rfl ?_
          refine tm_iconst dX12_areAlike_137 ?_
          refine tm_istore (L' := [(8, .int (iI 0)), (7, .int (iI (σ23.1 83))), (1, .int (iI 0)), (6, .int (iI (σ3.1 84))), (5, .int (iI (σ3.1 83))), (4, .int (iI (σ0.2.1 81 ((12 * (σ3.1 83)) + (σ3.1 84))))), (3, .int (iI v14)), (2, .int (iI k)), (0, .ref b)]) dX12_areAlike_138 (by decide) rfl ?_
          refine tm_sub [0, 1, 3, 4, 5, 6, 2, 7, 8] rfl (f_areA2 (d) (σ0 := (sS 84 (σ3.1 84) (sS 83 (σ3.1 83) σ23))) (k := k) (r3 := v14) (x4 := σ0.2.1 81 ((12 * (σ3.1 83)) + (σ3.1 84))) (c5 := σ3.1 83) (f6 := σ3.1 84) (c7 := σ23.1 83) ((f27.S (by omega)).S (by omega)) (hit.fr (show Fr [83, 84] [46, 47, 48, 49, 50, 51, 52, 53, 54, 55, 56, 57, 58, 86] [] σ0 (sS 84 (σ3.1 84) (sS 83 (σ3.1 83) σ23)) from (((((Fr.rfl.trans (Fr.sub hF (by decide) (by decide) (by decide))).trans (Fr.sub f6 (by decide) (by decide) (by decide))).trans (Fr.sub f26 (by decide) (by decide) (by decide))).S (by decide)).S (by decide))) (by decide)) (hpar.fr (show Fr [83, 84] [46, 47, 48, 49, 50, 51, 52, 53, 54, 55, 56, 57, 58, 86] [] σ0 (sS 84 (σ3.1 84) (sS 83 (σ3.1 83) σ23)) from (((((Fr.rfl.trans (Fr.sub hF (by decide) (by decide) (by decide))).trans (Fr.sub f6 (by decide) (by decide) (by decide))).trans (Fr.sub f26 (by decide) (by decide) (by decide))).S (by decide)).S (by decide))) (by decide)) (hnam.fr (show Fr [83, 84] [46, 47, 48, 49, 50, 51, 52, 53, 54, 55, 56, 57, 58, 86] [] σ0 (sS 84 (σ3.1 84) (sS 83 (σ3.1 83) σ23)) from (((((Fr.rfl.trans (Fr.sub hF (by decide) (by decide) (by decide))).trans (Fr.sub f6 (by decide) (by decide) (by decide))).trans (Fr.sub f26 (by decide) (by decide) (by decide))).S (by decide)).S (by decide))) (by decide)) (hgd2.fr (show Fr [83, 84] [] [] σ (sS 84 (σ3.1 84) (sS 83 (σ3.1 83) σ23)) from ((((Fr.rfl.trans (Fr.sub f6 (by decide) (by decide) (by decide))).trans (Fr.sub f26 (by decide) (by decide) (by decide))).S (by decide)).S (by decide))) (by decide) (by decide)) (by rw [show (sS 84 (σ3.1 84) (sS 83 (σ3.1 83) σ23)).1 83 = σ3.1 83 from rs_o (by decide) (rs_eq), show (sS 84 (σ3.1 84) (sS 83 (σ3.1 83) σ23)).1 84 = σ3.1 84 from rs_eq, (show Fr [83, 84] [46, 47, 48, 49, 50, 51, 52, 53, 54, 55, 56, 57, 58, 86] [] σ0 (sS 84 (σ3.1 84) (sS 83 (σ3.1 83) σ23)) from (((((Fr.rfl.trans (Fr.sub hF (by decide) (by decide) (by decide))).trans (Fr.sub f6 (by decide) (by decide) (by decide))).trans (Fr.sub f26 (by decide) (by decide) (by decide))).S (by decide)).S (by decide))).2.1 78 (by decide), (show Fr [83, 84] [46, 47, 48, 49, 50, 51, 52, 53, 54, 55, 56, 57, 58, 86] [] σ0 (sS 84 (σ3.1 84) (sS 83 (σ3.1 83) σ23)) from (((((Fr.rfl.trans (Fr.sub hF (by decide) (by decide) (by decide))).trans (Fr.sub f6 (by decide) (by decide) (by decide))).trans (Fr.sub f26 (by decide) (by decide) (by decide))).S (by decide)).S (by decide))).2.1 79 (by decide), (show Fr [83, 84] [46, 47, 48, 49, 50, 51, 52, 53, 54, 55, 56, 57, 58, 86] [] σ0 (sS 84 (σ3.1 84) (sS 83 (σ3.1 83) σ23)) from (((((Fr.rfl.trans (Fr.sub hF (by decide) (by decide) (by decide))).trans (Fr.sub f6 (by decide) (by decide) (by decide))).trans (Fr.sub f26 (by decide) (by decide) (by decide))).S (by decide)).S (by decide))).1 10 (by decide), ← hF.2.1 78 (by decide), ← hF.2.1 79 (by decide), ← hF.1 10 (by decide)]; omega) hr3b hc7 (by rw [(show Fr [83, 84] [] [] σ (sS 84 (σ3.1 84) (sS 83 (σ3.1 83) σ23)) from ((((Fr.rfl.trans (Fr.sub f6 (by decide) (by decide) (by decide))).trans (Fr.sub f26 (by decide) (by decide) (by decide))).S (by decide)).S (by decide))).2.1 86 (by decide)]; omega) (fun n846 a47 σ48 F37 R38 f39 f40 f41 f42 f43 f44 f45 => ?_) _ (0) (0) (sS 84 (σ3.1 84) (sS 83 (σ3.1 83) σ23)) Fr.rfl ((f27.S (by omega)).S (by omega)) (by omega) (hl.fr (show Fr [83, 84] [] [] σ (sS 84 (σ3.1 84) (sS 83 (σ3.1 83) σ23)) from ((((Fr.rfl.trans (Fr.sub f6 (by decide) (by decide) (by decide))).trans (Fr.sub f26 (by decide) (by decide) (by decide))).S (by decide)).S (by decide))) (by decide)) (hbo.fr (show Fr [83, 84] [] [] σ (sS 84 (σ3.1 84) (sS 83 (σ3.1 83) σ23)) from ((((Fr.rfl.trans (Fr.sub f6 (by decide) (by decide) (by decide))).trans (Fr.sub f26 (by decide) (by decide) (by decide))).S (by decide)).S (by decide))) (by decide)) (hbh.fr (show Fr [83, 84] [] [] σ (sS 84 (σ3.1 84) (sS 83 (σ3.1 83) σ23)) from ((((Fr.rfl.trans (Fr.sub f6 (by decide) (by decide) (by decide))).trans (Fr.sub f26 (by decide) (by decide) (by decide))).S (by decide)).S (by decide))) (by decide)) (hss.fr (show Fr [83, 84] [] [] σ (sS 84 (σ3.1 84) (sS 83 (σ3.1 83) σ23)) from ((((Fr.rfl.trans (Fr.sub f6 (by decide) (by decide) (by decide))).trans (Fr.sub f26 (by decide) (by decide) (by decide))).S (by decide)).S (by decide))) (by decide)) (hsc.fr (show Fr [83, 84] [] [] σ (sS 84 (σ3.1 84) (sS 83 (σ3.1 83) σ23)) from ((((Fr.rfl.trans (Fr.sub f6 (by decide) (by decide) (by decide))).trans (Fr.sub f26 (by decide) (by decide) (by decide))).S (by decide)).S (by decide))) (by decide)) ⟨⟨Int.le_refl _, by omega⟩, Int.le_refl _, by omega⟩ rfl)
          show Tm _ _ 241 b σ48 [(1, .int (iI a47)), (2, .int (iI k)), (0, .ref b)] [] _
          refine tm_iinc (q0 := 1) (L' := [(2, .int (iI (k + 1))), (1, .int (iI a47)), (0, .ref b)]) dX12_areAlike_241 rfl (by decide) rfl ?_
          refine tm_goto (tgt := 28) dX12_areAlike_244 (by decide) ?_
          exact tm_sub [0, 1, 2] rfl (ih _ (by omega) (a47) (k + 1) σ48 ((((((Fr.rfl.trans (Fr.sub hF (by decide) (by decide) (by decide))).trans (Fr.sub f6 (by decide) (by decide) (by decide))).trans (Fr.sub f26 (by decide) (by decide) (by decide))).S (by decide)).S (by decide)).trans (Fr.sub F37 (by decide) (by decide) (by decide))) R38 (by omega) f40 f41 f42 f43 f44 (by have q := f45; rw [(show Fr [83, 84] [] [] σ (sS 84 (σ3.1 84) (sS 83 (σ3.1 83) σ23)) from ((((Fr.rfl.trans (Fr.sub f6 (by decide) (by decide) (by decide))).trans (Fr.sub f26 (by decide) (by decide) (by decide))).S (by decide)).S (by decide))).2.1 86 (by decide)] at q; omega) rfl)
        · refine tm_aload_n dX12_areAlike_87 rfl 6 rfl ?_
          refine tm_iconst dX12_areAlike_88 ?_
          refine tm_callV (M := m_X12_areAlike) (pc := 89) (ix := 584) (M' := m_X12_routineIn) (As := [.int (iI 2)]) (rest := []) dX12_areAlike_89 ok_X12_routineIn im_X12_routineIn se_X12_routineIn ml12_584 np_X12_routineIn rfl rfl (Nat.le_of_ble_eq_true rfl) (Nat.le_of_ble_eq_true rfl) rfl (c_X12_routineIn (d + 6) (σ := σ23) (m := 2) f27 hc7 (fun q => absurd rfl q) (by omega)) (fun r49 σ50 hp => ?_)
          obtain ⟨v51, rfl, rfl, f52, f53⟩ := hp
          show Tm _ _ 92 b σ23 [(6, .int (iI (σ3.1 84))), (5, .int (iI (σ3.1 83))), (4, .int (iI (σ0.2.1 81 ((12 * (σ3.1 83)) + (σ3.1 84))))), (3, .int (iI v14)), (2, .int (iI k)), (1, .int (iI a)), (0, .ref b)] [.int (iI v51)] _
          have hr78 := (f27).a 78 (σ23.1 83)
          refine tm_iload_n dX12_areAlike_92 rfl 3 rfl ?_
          refine tm_icmp_ne (tgt := 117) dX12_areAlike_93 (by decide) ⟨by omega, by omega⟩ ⟨by omega, by omega⟩ (fun h54 => ?_) (fun h54 => ?_)
          · refine tm_iconst dX12_areAlike_117 ?_
            refine tm_istore_n (L' := [(1, .int (iI 0)), (6, .int (iI (σ3.1 84))), (5, .int (iI (σ3.1 83))), (4, .int (iI (σ0.2.1 81 ((12 * (σ3.1 83)) + (σ3.1 84))))), (3, .int (iI v14)), (2, .int (iI k)), (0, .ref b)]) dX12_areAlike_118 rfl (by decide) rfl ?_
            refine tm_aload_n dX12_areAlike_119 rfl 6 rfl ?_
            refine tm_getS (k := 83) (t := σ23.1 83) dX12_areAlike_120 (by decide) fl12_572 rfl (rfl) ?_
            have g55 := RG.s f27 83
            refine tm_istore (L' := [(7, .int (iI (σ23.1 83))), (1, .int (iI 0)), (6, .int (iI (σ3.1 84))), (5, .int (iI (σ3.1 83))), (4, .int (iI (σ0.2.1 81 ((12 * (σ3.1 83)) + (σ3.1 84))))), (3, .int (iI v14)), (2, .int (iI k)), (0, .ref b)]) dX12_areAlike_123 (by decide) rfl ?_
            refine tm_aload_n dX12_areAlike_125 rfl 7 rfl ?_
            refine tm_iload dX12_areAlike_126 3 rfl ?_
            refine tm_putS (k := 83) (v := σ3.1 83) lay_12 dX12_areAlike_128 (by decide) fl12_572 rfl (tyX12_ok 83 (by decide)) rfl rfl rfl ?_
            refine tm_aload_n dX12_areAlike_131 rfl 7 rfl ?_
            refine tm_iload dX12_areAlike_132 2 rfl ?_
            refine tm_putS (k := 84) (v := σ3.1 84) lay_12 dX12_areAlike_134 (by decide) fl12_575 rfl (tyX12_ok 84 (by decide)) rfl rfl rfl ?_
            refine tm_iconst dX12_areAlike_137 ?_
            refine tm_istore (L' := [(8, .int (iI 0)), (7, .int (iI (σ23.1 83))), (1, .int (iI 0)), (6, .int (iI (σ3.1 84))), (5, .int (iI (σ3.1 83))), (4, .int (iI (σ0.2.1 81 ((12 * (σ3.1 83)) + (σ3.1 84))))), (3, .int (iI v14)), (2, .int (iI k)), (0, .ref b)]) dX12_areAlike_138 (by decide) rfl ?_
            refine tm_sub [0, 1, 3, 4, 5, 6, 2, 7, 8] rfl (f_areA2 (d) (σ0 := (sS 84 (σ3.1 84) (sS 83 (σ3.1 83) σ23))) (k := k) (r3 := v14) (x4 := σ0.2.1 81 ((12 * (σ3.1 83)) + (σ3.1 84))) (c5 := σ3.1 83) (f6 := σ3.1 84) (c7 := σ23.1 83) ((f27.S (by omega)).S (by omega)) (hit.fr (show Fr [83, 84] [46, 47, 48, 49, 50, 51, 52, 53, 54, 55, 56, 57, 58, 86] [] σ0 (sS 84 (σ3.1 84) (sS 83 (σ3.1 83) σ23)) from (((((Fr.rfl.trans (Fr.sub hF (by decide) (by decide) (by decide))).trans (Fr.sub f6 (by decide) (by decide) (by decide))).trans (Fr.sub f26 (by decide) (by decide) (by decide))).S (by decide)).S (by decide))) (by decide)) (hpar.fr (show Fr [83, 84] [46, 47, 48, 49, 50, 51, 52, 53, 54, 55, 56, 57, 58, 86] [] σ0 (sS 84 (σ3.1 84) (sS 83 (σ3.1 83) σ23)) from (((((Fr.rfl.trans (Fr.sub hF (by decide) (by decide) (by decide))).trans (Fr.sub f6 (by decide) (by decide) (by decide))).trans (Fr.sub f26 (by decide) (by decide) (by decide))).S (by decide)).S (by decide))) (by decide)) (hnam.fr (show Fr [83, 84] [46, 47, 48, 49, 50, 51, 52, 53, 54, 55, 56, 57, 58, 86] [] σ0 (sS 84 (σ3.1 84) (sS 83 (σ3.1 83) σ23)) from (((((Fr.rfl.trans (Fr.sub hF (by decide) (by decide) (by decide))).trans (Fr.sub f6 (by decide) (by decide) (by decide))).trans (Fr.sub f26 (by decide) (by decide) (by decide))).S (by decide)).S (by decide))) (by decide)) (hgd2.fr (show Fr [83, 84] [] [] σ (sS 84 (σ3.1 84) (sS 83 (σ3.1 83) σ23)) from ((((Fr.rfl.trans (Fr.sub f6 (by decide) (by decide) (by decide))).trans (Fr.sub f26 (by decide) (by decide) (by decide))).S (by decide)).S (by decide))) (by decide) (by decide)) (by rw [show (sS 84 (σ3.1 84) (sS 83 (σ3.1 83) σ23)).1 83 = σ3.1 83 from rs_o (by decide) (rs_eq), show (sS 84 (σ3.1 84) (sS 83 (σ3.1 83) σ23)).1 84 = σ3.1 84 from rs_eq, (show Fr [83, 84] [46, 47, 48, 49, 50, 51, 52, 53, 54, 55, 56, 57, 58, 86] [] σ0 (sS 84 (σ3.1 84) (sS 83 (σ3.1 83) σ23)) from (((((Fr.rfl.trans (Fr.sub hF (by decide) (by decide) (by decide))).trans (Fr.sub f6 (by decide) (by decide) (by decide))).trans (Fr.sub f26 (by decide) (by decide) (by decide))).S (by decide)).S (by decide))).2.1 78 (by decide), (show Fr [83, 84] [46, 47, 48, 49, 50, 51, 52, 53, 54, 55, 56, 57, 58, 86] [] σ0 (sS 84 (σ3.1 84) (sS 83 (σ3.1 83) σ23)) from (((((Fr.rfl.trans (Fr.sub hF (by decide) (by decide) (by decide))).trans (Fr.sub f6 (by decide) (by decide) (by decide))).trans (Fr.sub f26 (by decide) (by decide) (by decide))).S (by decide)).S (by decide))).2.1 79 (by decide), (show Fr [83, 84] [46, 47, 48, 49, 50, 51, 52, 53, 54, 55, 56, 57, 58, 86] [] σ0 (sS 84 (σ3.1 84) (sS 83 (σ3.1 83) σ23)) from (((((Fr.rfl.trans (Fr.sub hF (by decide) (by decide) (by decide))).trans (Fr.sub f6 (by decide) (by decide) (by decide))).trans (Fr.sub f26 (by decide) (by decide) (by decide))).S (by decide)).S (by decide))).1 10 (by decide), ← hF.2.1 78 (by decide), ← hF.2.1 79 (by decide), ← hF.1 10 (by decide)]; omega) hr3b hc7 (by rw [(show Fr [83, 84] [] [] σ (sS 84 (σ3.1 84) (sS 83 (σ3.1 83) σ23)) from ((((Fr.rfl.trans (Fr.sub f6 (by decide) (by decide) (by decide))).trans (Fr.sub f26 (by decide) (by decide) (by decide))).S (by decide)).S (by decide))).2.1 86 (by decide)]; omega) (fun n868 a69 σ70 F59 R60 f61 f62 f63 f64 f65 f66 f67 => ?_) _ (0) (0) (sS 84 (σ3.1 84) (sS 83 (σ3.1 83) σ23)) Fr.rfl ((f27.S (by omega)).S (by omega)) (by omega) (hl.fr (show Fr [83, 84] [] [] σ (sS 84 (σ3.1 84) (sS 83 (σ3.1 83) σ23)) from ((((Fr.rfl.trans (Fr.sub f6 (by decide) (by decide) (by decide))).trans (Fr.sub f26 (by decide) (by decide) (by decide))).S (by decide)).S (by decide))) (by decide)) (hbo.fr (show Fr [83, 84] [] [] σ (sS 84 (σ3.1 84) (sS 83 (σ3.1 83) σ23)) from ((((Fr.rfl.trans (Fr.sub f6 (by decide) (by decide) (by decide))).trans (Fr.sub f26 (by decide) (by decide) (by decide))).S (by decide)).S (by decide))) (by decide)) (hbh.fr (show Fr [83, 84] [] [] σ (sS 84 (σ3.1 84) (sS 83 (σ3.1 83) σ23)) from ((((Fr.rfl.trans (Fr.sub f6 (by decide) (by decide) (by decide))).trans (Fr.sub f26 (by decide) (by decide) (by decide))).S (by decide)).S (by decide))) (by decide)) (hss.fr (show Fr [83, 84] [] [] σ (sS 84 (σ3.1 84) (sS 83 (σ3.1 83) σ23)) from ((((Fr.rfl.trans (Fr.sub f6 (by decide) (by decide) (by decide))).trans (Fr.sub f26 (by decide) (by decide) (by decide))).S (by decide)).S (by decide))) (by decide)) (hsc.fr (show Fr [83, 84] [] [] σ (sS 84 (σ3.1 84) (sS 83 (σ3.1 83) σ23)) from ((((Fr.rfl.trans (Fr.sub f6 (by decide) (by decide) (by decide))).trans (Fr.sub f26 (by decide) (by decide) (by decide))).S (by decide)).S (by decide))) (by decide)) ⟨⟨Int.le_refl _, by omega⟩, Int.le_refl _, by omega⟩ rfl)
            show Tm _ _ 241 b σ70 [(1, .int (iI a69)), (2, .int (iI k)), (0, .ref b)] [] _
            refine tm_iinc (q0 := 1) (L' := [(2, .int (iI (k + 1))), (1, .int (iI a69)), (0, .ref b)]) dX12_areAlike_241 rfl (by decide) rfl ?_
            refine tm_goto (tgt := 28) dX12_areAlike_244 (by decide) ?_
            exact tm_sub [0, 1, 2] rfl (ih _ (by omega) (a69) (k + 1) σ70 ((((((Fr.rfl.trans (Fr.sub hF (by decide) (by decide) (by decide))).trans (Fr.sub f6 (by decide) (by decide) (by decide))).trans (Fr.sub f26 (by decide) (by decide) (by decide))).S (by decide)).S (by decide)).trans (Fr.sub F59 (by decide) (by decide) (by decide))) R60 (by omega) f62 f63 f64 f65 f66 (by have q := f67; rw [(show Fr [83, 84] [] [] σ (sS 84 (σ3.1 84) (sS 83 (σ3.1 83) σ23)) from ((((Fr.rfl.trans (Fr.sub f6 (by decide) (by decide) (by decide))).trans (Fr.sub f26 (by decide) (by decide) (by decide))).S (by decide)).S (by decide))).2.1 86 (by decide)] at q; omega) rfl)
          · refine tm_aload_n dX12_areAlike_96 rfl 6 rfl ?_
            refine tm_get (k := 81) (v := .ref (b + 1 + 52)) lay_12 dX12_areAlike_97 (by decide) fl12_176 rfl ?_
            refine tm_bipush dX12_areAlike_100 (by decide) ?_
            refine tm_aload_n dX12_areAlike_102 rfl 6 rfl ?_
            refine tm_getS (k := 83) (t := σ23.1 83) dX12_areAlike_103 (by decide) fl12_572 rfl (rfl) ?_
            have g71 := RG.s f27 83
            refine tm_imul dX12_areAlike_106 ?_
            refine tm_iald (z := 12 * (σ23.1 83)) (v := σ0.2.1 81 (12 * (σ23.1 83))) dX12_areAlike_107 (show mT[52]? = some (81, 0, 324) from rfl) (by omega) (by omega) (by decide) (ra_F f26 (by decide) (ra_F f6 (by decide) (ra_F hF (by decide) (rfl)))) ?_
            have g72 := RG.a hR0 81 (12 * (σ23.1 83))
            refine tm_iload dX12_areAlike_108 2 rfl ?_
            refine tm_icmp_ne (tgt := 117) dX12_areAlike_110 (by decide) ⟨by omega, by omega⟩ ⟨by omega, by omega⟩ (fun h73 => ?_) (fun h73 => ?_)
            · refine tm_iconst dX12_areAlike_117 ?_
              refine tm_istore_n (L' := [(1, .int (iI 0)), (6, .int (iI (σ3.1 84))), (5, .int (iI (σ3.1 83))), (4, .int (iI (σ0.2.1 81 ((12 * (σ3.1 83)) + (σ3.1 84))))), (3, .int (iI v14)), (2, .int (iI k)), (0, .ref b)]) dX12_areAlike_118 rfl (by decide) rfl ?_
              refine tm_aload_n dX12_areAlike_119 rfl 6 rfl ?_
              refine tm_getS (k := 83) (t := σ23.1 83) dX12_areAlike_120 (by decide) fl12_572 rfl (rfl) ?_
              have g74 := RG.s f27 83
              refine tm_istore (L' := [(7, .int (iI (σ23.1 83))), (1, .int (iI 0)), (6, .int (iI (σ3.1 84))), (5, .int (iI (σ3.1 83))), (4, .int (iI (σ0.2.1 81 ((12 * (σ3.1 83)) + (σ3.1 84))))), (3, .int (iI v14)), (2, .int (iI k)), (0, .ref b)]) dX12_areAlike_123 (by decide) rfl ?_
              refine tm_aload_n dX12_areAlike_125 rfl 7 rfl ?_
              refine tm_iload dX12_areAlike_126 3 rfl ?_
              refine tm_putS (k := 83) (v := σ3.1 83) lay_12 dX12_areAlike_128 (by decide) fl12_572 rfl (tyX12_ok 83 (by decide)) rfl rfl rfl ?_
              refine tm_aload_n dX12_areAlike_131 rfl 7 rfl ?_
              refine tm_iload dX12_areAlike_132 2 rfl ?_
              refine tm_putS (k := 84) (v := σ3.1 84) lay_12 dX12_areAlike_134 (by decide) fl12_575 rfl (tyX12_ok 84 (by decide)) rfl rfl rfl ?_
              refine tm_iconst dX12_areAlike_137 ?_
              refine tm_istore (L' := [(8, .int (iI 0)), (7, .int (iI (σ23.1 83))), (1, .int (iI 0)), (6, .int (iI (σ3.1 84))), (5, .int (iI (σ3.1 83))), (4, .int (iI (σ0.2.1 81 ((12 * (σ3.1 83)) + (σ3.1 84))))), (3, .int (iI v14)), (2, .int (iI k)), (0, .ref b)]) dX12_areAlike_138 (by decide) rfl ?_
              refine tm_sub [0, 1, 3, 4, 5, 6, 2, 7, 8] rfl (f_areA2 (d) (σ0 := (sS 84 (σ3.1 84) (sS 83 (σ3.1 83) σ23))) (k := k) (r3 := v14) (x4 := σ0.2.1 81 ((12 * (σ3.1 83)) + (σ3.1 84))) (c5 := σ3.1 83) (f6 := σ3.1 84) (c7 := σ23.1 83) ((f27.S (by omega)).S (by omega)) (hit.fr (show Fr [83, 84] [46, 47, 48, 49, 50, 51, 52, 53, 54, 55, 56, 57, 58, 86] [] σ0 (sS 84 (σ3.1 84) (sS 83 (σ3.1 83) σ23)) from (((((Fr.rfl.trans (Fr.sub hF (by decide) (by decide) (by decide))).trans (Fr.sub f6 (by decide) (by decide) (by decide))).trans (Fr.sub f26 (by decide) (by decide) (by decide))).S (by decide)).S (by decide))) (by decide)) (hpar.fr (show Fr [83, 84] [46, 47, 48, 49, 50, 51, 52, 53, 54, 55, 56, 57, 58, 86] [] σ0 (sS 84 (σ3.1 84) (sS 83 (σ3.1 83) σ23)) from (((((Fr.rfl.trans (Fr.sub hF (by decide) (by decide) (by decide))).trans (Fr.sub f6 (by decide) (by decide) (by decide))).trans (Fr.sub f26 (by decide) (by decide) (by decide))).S (by decide)).S (by decide))) (by decide)) (hnam.fr (show Fr [83, 84] [46, 47, 48, 49, 50, 51, 52, 53, 54, 55, 56, 57, 58, 86] [] σ0 (sS 84 (σ3.1 84) (sS 83 (σ3.1 83) σ23)) from (((((Fr.rfl.trans (Fr.sub hF (by decide) (by decide) (by decide))).trans (Fr.sub f6 (by decide) (by decide) (by decide))).trans (Fr.sub f26 (by decide) (by decide) (by decide))).S (by decide)).S (by decide))) (by decide)) (hgd2.fr (show Fr [83, 84] [] [] σ (sS 84 (σ3.1 84) (sS 83 (σ3.1 83) σ23)) from ((((Fr.rfl.trans (Fr.sub f6 (by decide) (by decide) (by decide))).trans (Fr.sub f26 (by decide) (by decide) (by decide))).S (by decide)).S (by decide))) (by decide) (by decide)) (by rw [show (sS 84 (σ3.1 84) (sS 83 (σ3.1 83) σ23)).1 83 = σ3.1 83 from rs_o (by decide) (rs_eq), show (sS 84 (σ3.1 84) (sS 83 (σ3.1 83) σ23)).1 84 = σ3.1 84 from rs_eq, (show Fr [83, 84] [46, 47, 48, 49, 50, 51, 52, 53, 54, 55, 56, 57, 58, 86] [] σ0 (sS 84 (σ3.1 84) (sS 83 (σ3.1 83) σ23)) from (((((Fr.rfl.trans (Fr.sub hF (by decide) (by decide) (by decide))).trans (Fr.sub f6 (by decide) (by decide) (by decide))).trans (Fr.sub f26 (by decide) (by decide) (by decide))).S (by decide)).S (by decide))).2.1 78 (by decide), (show Fr [83, 84] [46, 47, 48, 49, 50, 51, 52, 53, 54, 55, 56, 57, 58, 86] [] σ0 (sS 84 (σ3.1 84) (sS 83 (σ3.1 83) σ23)) from (((((Fr.rfl.trans (Fr.sub hF (by decide) (by decide) (by decide))).trans (Fr.sub f6 (by decide) (by decide) (by decide))).trans (Fr.sub f26 (by decide) (by decide) (by decide))).S (by decide)).S (by decide))).2.1 79 (by decide), (show Fr [83, 84] [46, 47, 48, 49, 50, 51, 52, 53, 54, 55, 56, 57, 58, 86] [] σ0 (sS 84 (σ3.1 84) (sS 83 (σ3.1 83) σ23)) from (((((Fr.rfl.trans (Fr.sub hF (by decide) (by decide) (by decide))).trans (Fr.sub f6 (by decide) (by decide) (by decide))).trans (Fr.sub f26 (by decide) (by decide) (by decide))).S (by decide)).S (by decide))).1 10 (by decide), ← hF.2.1 78 (by decide), ← hF.2.1 79 (by decide), ← hF.1 10 (by decide)]; omega) hr3b hc7 (by rw [(show Fr [83, 84] [] [] σ (sS 84 (σ3.1 84) (sS 83 (σ3.1 83) σ23)) from ((((Fr.rfl.trans (Fr.sub f6 (by decide) (by decide) (by decide))).trans (Fr.sub f26 (by decide) (by decide) (by decide))).S (by decide)).S (by decide))).2.1 86 (by decide)]; omega) (fun n887 a88 σ89 F78 R79 f80 f81 f82 f83 f84 f85 f86 => ?_) _ (0) (0) (sS 84 (σ3.1 84) (sS 83 (σ3.1 83) σ23)) Fr.rfl ((f27.S (by omega)).S (by omega)) (by omega) (hl.fr (show Fr [83, 84] [] [] σ (sS 84 (σ3.1 84) (sS 83 (σ3.1 83) σ23)) from ((((Fr.rfl.trans (Fr.sub f6 (by decide) (by decide) (by decide))).trans (Fr.sub f26 (by decide) (by decide) (by decide))).S (by decide)).S (by decide))) (by decide)) (hbo.fr (show Fr [83, 84] [] [] σ (sS 84 (σ3.1 84) (sS 83 (σ3.1 83) σ23)) from ((((Fr.rfl.trans (Fr.sub f6 (by decide) (by decide) (by decide))).trans (Fr.sub f26 (by decide) (by decide) (by decide))).S (by decide)).S (by decide))) (by decide)) (hbh.fr (show Fr [83, 84] [] [] σ (sS 84 (σ3.1 84) (sS 83 (σ3.1 83) σ23)) from ((((Fr.rfl.trans (Fr.sub f6 (by decide) (by decide) (by decide))).trans (Fr.sub f26 (by decide) (by decide) (by decide))).S (by decide)).S (by decide))) (by decide)) (hss.fr (show Fr [83, 84] [] [] σ (sS 84 (σ3.1 84) (sS 83 (σ3.1 83) σ23)) from ((((Fr.rfl.trans (Fr.sub f6 (by decide) (by decide) (by decide))).trans (Fr.sub f26 (by decide) (by decide) (by decide))).S (by decide)).S (by decide))) (by decide)) (hsc.fr (show Fr [83, 84] [] [] σ (sS 84 (σ3.1 84) (sS 83 (σ3.1 83) σ23)) from ((((Fr.rfl.trans (Fr.sub f6 (by decide) (by decide) (by decide))).trans (Fr.sub f26 (by decide) (by decide) (by decide))).S (by decide)).S (by decide))) (by decide)) ⟨⟨Int.le_refl _, by omega⟩, Int.le_refl _, by omega⟩ rfl)
              show Tm _ _ 241 b σ89 [(1, .int (iI a88)), (2, .int (iI k)), (0, .ref b)] [] _
              refine tm_iinc (q0 := 1) (L' := [(2, .int (iI (k + 1))), (1, .int (iI a88)), (0, .ref b)]) dX12_areAlike_241 rfl (by decide) rfl ?_
              refine tm_goto (tgt := 28) dX12_areAlike_244 (by decide) ?_
              exact tm_sub [0, 1, 2] rfl (ih _ (by omega) (a88) (k + 1) σ89 ((((((Fr.rfl.trans (Fr.sub hF (by decide) (by decide) (by decide))).trans (Fr.sub f6 (by decide) (by decide) (by decide))).trans (Fr.sub f26 (by decide) (by decide) (by decide))).S (by decide)).S (by decide)).trans (Fr.sub F78 (by decide) (by decide) (by decide))) R79 (by omega) f81 f82 f83 f84 f85 (by have q := f86; rw [(show Fr [83, 84] [] [] σ (sS 84 (σ3.1 84) (sS 83 (σ3.1 83) σ23)) from ((((Fr.rfl.trans (Fr.sub f6 (by decide) (by decide) (by decide))).trans (Fr.sub f26 (by decide) (by decide) (by decide))).S (by decide)).S (by decide))).2.1 86 (by decide)] at q; omega) rfl)
            · refine tm_iconst dX12_areAlike_113 ?_
              refine tm_goto (tgt := 118) dX12_areAlike_114 (by decide) ?_
              refine tm_istore_n (L' := [(1, .int (iI 1)), (6, .int (iI (σ3.1 84))), (5, .int (iI (σ3.1 83))), (4, .int (iI (σ0.2.1 81 ((12 * (σ3.1 83)) + (σ3.1 84))))), (3, .int (iI v14)), (2, .int (iI k)), (0, .ref b)]) dX12_areAlike_118 rfl (by decide) rfl ?_
              refine tm_aload_n dX12_areAlike_119 rfl 6 rfl ?_
              refine tm_getS (k := 83) (t := σ23.1 83) dX12_areAlike_120 (by decide) fl12_572 rfl (rfl) ?_
              have g90 := RG.s f27 83
              refine tm_istore (L' := [(7, .int (iI (σ23.1 83))), (1, .int (iI 1)), (6, .int (iI (σ3.1 84))), (5, .int (iI (σ3.1 83))), (4, .int (iI (σ0.2.1 81 ((12 * (σ3.1 83)) + (σ3.1 84))))), (3, .int (iI v14)), (2, .int (iI k)), (0, .ref b)]) dX12_areAlike_123 (by decide) rfl ?_
              refine tm_aload_n dX12_areAlike_125 rfl 7 rfl ?_
              refine tm_iload dX12_areAlike_126 3 rfl ?_
              refine tm_putS (k := 83) (v := σ3.1 83) lay_12 dX12_areAlike_128 (by decide) fl12_572 rfl (tyX12_ok 83 (by decide)) rfl rfl rfl ?_
              refine tm_aload_n dX12_areAlike_131 rfl 7 rfl ?_
              refine tm_iload dX12_areAlike_132 2 rfl ?_
              refine tm_putS (k := 84) (v := σ3.1 84) lay_12 dX12_areAlike_134 (by decide) fl12_575 rfl (tyX12_ok 84 (by decide)) rfl rfl rfl ?_
              refine tm_iconst dX12_areAlike_137 ?_
              refine tm_istore (L' := [(8, .int (iI 0)), (7, .int (iI (σ23.1 83))), (1, .int (iI 1)), (6, .int (iI (σ3.1 84))), (5, .int (iI (σ3.1 83))), (4, .int (iI (σ0.2.1 81 ((12 * (σ3.1 83)) + (σ3.1 84))))), (3, .int (iI v14)), (2, .int (iI k)), (0, .ref b)]) dX12_areAlike_138 (by decide) rfl ?_
              refine tm_sub [0, 1, 3, 4, 5, 6, 2, 7, 8] rfl (f_areA2 (d) (σ0 := (sS 84 (σ3.1 84) (sS 83 (σ3.1 83) σ23))) (k := k) (r3 := v14) (x4 := σ0.2.1 81 ((12 * (σ3.1 83)) + (σ3.1 84))) (c5 := σ3.1 83) (f6 := σ3.1 84) (c7 := σ23.1 83) ((f27.S (by omega)).S (by omega)) (hit.fr (show Fr [83, 84] [46, 47, 48, 49, 50, 51, 52, 53, 54, 55, 56, 57, 58, 86] [] σ0 (sS 84 (σ3.1 84) (sS 83 (σ3.1 83) σ23)) from (((((Fr.rfl.trans (Fr.sub hF (by decide) (by decide) (by decide))).trans (Fr.sub f6 (by decide) (by decide) (by decide))).trans (Fr.sub f26 (by decide) (by decide) (by decide))).S (by decide)).S (by decide))) (by decide)) (hpar.fr (show Fr [83, 84] [46, 47, 48, 49, 50, 51, 52, 53, 54, 55, 56, 57, 58, 86] [] σ0 (sS 84 (σ3.1 84) (sS 83 (σ3.1 83) σ23)) from (((((Fr.rfl.trans (Fr.sub hF (by decide) (by decide) (by decide))).trans (Fr.sub f6 (by decide) (by decide) (by decide))).trans (Fr.sub f26 (by decide) (by decide) (by decide))).S (by decide)).S (by decide))) (by decide)) (hnam.fr (show Fr [83, 84] [46, 47, 48, 49, 50, 51, 52, 53, 54, 55, 56, 57, 58, 86] [] σ0 (sS 84 (σ3.1 84) (sS 83 (σ3.1 83) σ23)) from (((((Fr.rfl.trans (Fr.sub hF (by decide) (by decide) (by decide))).trans (Fr.sub f6 (by decide) (by decide) (by decide))).trans (Fr.sub f26 (by decide) (by decide) (by decide))).S (by decide)).S (by decide))) (by decide)) (hgd2.fr (show Fr [83, 84] [] [] σ (sS 84 (σ3.1 84) (sS 83 (σ3.1 83) σ23)) from ((((Fr.rfl.trans (Fr.sub f6 (by decide) (by decide) (by decide))).trans (Fr.sub f26 (by decide) (by decide) (by decide))).S (by decide)).S (by decide))) (by decide) (by decide)) (by rw [show (sS 84 (σ3.1 84) (sS 83 (σ3.1 83) σ23)).1 83 = σ3.1 83 from rs_o (by decide) (rs_eq), show (sS 84 (σ3.1 84) (sS 83 (σ3.1 83) σ23)).1 84 = σ3.1 84 from rs_eq, (show Fr [83, 84] [46, 47, 48, 49, 50, 51, 52, 53, 54, 55, 56, 57, 58, 86] [] σ0 (sS 84 (σ3.1 84) (sS 83 (σ3.1 83) σ23)) from (((((Fr.rfl.trans (Fr.sub hF (by decide) (by decide) (by decide))).trans (Fr.sub f6 (by decide) (by decide) (by decide))).trans (Fr.sub f26 (by decide) (by decide) (by decide))).S (by decide)).S (by decide))).2.1 78 (by decide), (show Fr [83, 84] [46, 47, 48, 49, 50, 51, 52, 53, 54, 55, 56, 57, 58, 86] [] σ0 (sS 84 (σ3.1 84) (sS 83 (σ3.1 83) σ23)) from (((((Fr.rfl.trans (Fr.sub hF (by decide) (by decide) (by decide))).trans (Fr.sub f6 (by decide) (by decide) (by decide))).trans (Fr.sub f26 (by decide) (by decide) (by decide))).S (by decide)).S (by decide))).2.1 79 (by decide), (show Fr [83, 84] [46, 47, 48, 49, 50, 51, 52, 53, 54, 55, 56, 57, 58, 86] [] σ0 (sS 84 (σ3.1 84) (sS 83 (σ3.1 83) σ23)) from (((((Fr.rfl.trans (Fr.sub hF (by decide) (by decide) (by decide))).trans (Fr.sub f6 (by decide) (by decide) (by decide))).trans (Fr.sub f26 (by decide) (by decide) (by decide))).S (by decide)).S (by decide))).1 10 (by decide), ← hF.2.1 78 (by decide), ← hF.2.1 79 (by decide), ← hF.1 10 (by decide)]; omega) hr3b hc7 (by rw [(show Fr [83, 84] [] [] σ (sS 84 (σ3.1 84) (sS 83 (σ3.1 83) σ23)) from ((((Fr.rfl.trans (Fr.sub f6 (by decide) (by decide) (by decide))).trans (Fr.sub f26 (by decide) (by decide) (by decide))).S (by decide)).S (by decide))).2.1 86 (by decide)]; omega) (fun n8103 a104 σ105 F94 R95 f96 f97 f98 f99 f100 f101 f102 => ?_) _ (0) (1) (sS 84 (σ3.1 84) (sS 83 (σ3.1 83) σ23)) Fr.rfl ((f27.S (by omega)).S (by omega)) (by omega) (hl.fr (show Fr [83, 84] [] [] σ (sS 84 (σ3.1 84) (sS 83 (σ3.1 83) σ23)) from ((((Fr.rfl.trans (Fr.sub f6 (by decide) (by decide) (by decide))).trans (Fr.sub f26 (by decide) (by decide) (by decide))).S (by decide)).S (by decide))) (by decide)) (hbo.fr (show Fr [83, 84] [] [] σ (sS 84 (σ3.1 84) (sS 83 (σ3.1 83) σ23)) from ((((Fr.rfl.trans (Fr.sub f6 (by decide) (by decide) (by decide))).trans (Fr.sub f26 (by decide) (by decide) (by decide))).S (by decide)).S (by decide))) (by decide)) (hbh.fr (show Fr [83, 84] [] [] σ (sS 84 (σ3.1 84) (sS 83 (σ3.1 83) σ23)) from ((((Fr.rfl.trans (Fr.sub f6 (by decide) (by decide) (by decide))).trans (Fr.sub f26 (by decide) (by decide) (by decide))).S (by decide)).S (by decide))) (by decide)) (hss.fr (show Fr [83, 84] [] [] σ (sS 84 (σ3.1 84) (sS 83 (σ3.1 83) σ23)) from ((((Fr.rfl.trans (Fr.sub f6 (by decide) (by decide) (by decide))).trans (Fr.sub f26 (by decide) (by decide) (by decide))).S (by decide)).S (by decide))) (by decide)) (hsc.fr (show Fr [83, 84] [] [] σ (sS 84 (σ3.1 84) (sS 83 (σ3.1 83) σ23)) from ((((Fr.rfl.trans (Fr.sub f6 (by decide) (by decide) (by decide))).trans (Fr.sub f26 (by decide) (by decide) (by decide))).S (by decide)).S (by decide))) (by decide)) ⟨⟨Int.le_refl _, by omega⟩, Int.le_refl _, by omega⟩ rfl)
              show Tm _ _ 241 b σ105 [(1, .int (iI a104)), (2, .int (iI k)), (0, .ref b)] [] _
              refine tm_iinc (q0 := 1) (L' := [(2, .int (iI (k + 1))), (1, .int (iI a104)), (0, .ref b)]) dX12_areAlike_241 rfl (by decide) rfl ?_
              refine tm_goto (tgt := 28) dX12_areAlike_244 (by decide) ?_
              exact tm_sub [0, 1, 2] rfl (ih _ (by omega) (a104) (k + 1) σ105 ((((((Fr.rfl.trans (Fr.sub hF (by decide) (by decide) (by decide))).trans (Fr.sub f6 (by decide) (by decide) (by decide))).trans (Fr.sub f26 (by decide) (by decide) (by decide))).S (by decide)).S (by decide)).trans (Fr.sub F94 (by decide) (by decide) (by decide))) R95 (by omega) f97 f98 f99 f100 f101 (by have q := f102; rw [(show Fr [83, 84] [] [] σ (sS 84 (σ3.1 84) (sS 83 (σ3.1 83) σ23)) from ((((Fr.rfl.trans (Fr.sub f6 (by decide) (by decide) (by decide))).trans (Fr.sub f26 (by decide) (by decide) (by decide))).S (by decide)).S (by decide))).2.1 86 (by decide)] at q; omega) rfl)
set_option maxHeartbeats 2000000 in
set_option maxRecDepth 20000 in
theorem f_X12_areAlike (d : Nat) {b : Nat} {σ : MS} (hR : RG σ) (hit : ITM σ) (hpar : PAR σ) (hnam : NAM σ) (hgd : GDA σ) (hl : LAB σ) (hbo : BO 47 σ) (hbh : BO 48 σ) (hss : SSA σ) (hsc : SCH σ) (hr1 : RUN σ 1) (hr2 : RUN σ 2) (hb2 : BKA σ 2) (hC : (0 ≤ σ.2.1 86 0 ∧ σ.2.1 86 0 ≤ 900000000) ∧ 0 ≤ σ.2.1 86 1 ∧ σ.2.1 86 1 ≤ 900000000) : Tm (d + 8) m_X12_areAlike 0 b σ [(0, .ref b)] [] (fun ro σ2 => ∃ v : Int, ro = some (.int (iI v)) ∧ ((v = 0 ∨ v = 1)) ∧ (Fr [83, 84] [46, 47, 48, 49, 50, 51, 52, 53, 54, 55, 56, 57, 58, 86] [] σ σ2) ∧ (RG σ2) ∧ (LAB σ2) ∧ (BO 47 σ2) ∧ (BO 48 σ2) ∧ (SSA σ2) ∧ (SCH σ2) ∧ ((σ.2.1 86 0 ≤ σ2.2.1 86 0 ∧ σ2.2.1 86 0 ≤ σ.2.1 86 0 + 1416) ∧ σ.2.1 86 1 ≤ σ2.2.1 86 1 ∧ σ2.2.1 86 1 ≤ σ.2.1 86 1 + 1416)) := by
  have hb1 := hgd.bka (m := 1) (by decide)
  have hd1 := hr1.hd hb1
  have hd2 := hr2.hd hb2
  refine tm_aload_n dX12_areAlike_0 rfl 0 rfl ?_
  refine tm_iconst dX12_areAlike_1 ?_
  refine tm_callV (M := m_X12_areAlike) (pc := 2) (ix := 554) (M' := m_X12_depth) (As := [.int (iI 1)]) (rest := []) dX12_areAlike_2 ok_X12_depth im_X12_depth se_X12_depth ml12_554 np_X12_depth rfl rfl (Nat.le_of_ble_eq_true rfl) (Nat.le_of_ble_eq_true rfl) rfl (c_X12_depth (d + 6) (σ := σ) (m := 1) hR (by decide) hd1.1 (fun c a e => ⟨_, hd1.2 c a e⟩)) (fun r1 σ2 hp => ?_)
  obtain ⟨v3, rfl, rfl, f4, f5⟩ := hp
  show Tm _ _ 5 b σ [(0, .ref b)] [.int (iI v3)] _
  refine tm_aload_n dX12_areAlike_5 rfl 0 rfl ?_
  refine tm_iconst dX12_areAlike_6 ?_
  refine tm_callV (M := m_X12_areAlike) (pc := 7) (ix := 554) (M' := m_X12_depth) (As := [.int (iI 2)]) (rest := [.int (iI v3)]) dX12_areAlike_7 ok_X12_depth im_X12_depth se_X12_depth ml12_554 np_X12_depth rfl rfl (Nat.le_of_ble_eq_true rfl) (Nat.le_of_ble_eq_true rfl) rfl (c_X12_depth (d + 6) (σ := σ) (m := 2) hR (by decide) hd2.1 (fun c a e => ⟨_, hd2.2 c a e⟩)) (fun r6 σ7 hp => ?_)
  obtain ⟨v8, rfl, rfl, f9, f10⟩ := hp
  show Tm _ _ 10 b σ [(0, .ref b)] [.int (iI v8), .int (iI v3)] _
  refine tm_icmp_ne (tgt := 24) dX12_areAlike_10 (by decide) ⟨by omega, by omega⟩ ⟨by omega, by omega⟩ (fun h11 => ?_) (fun h11 => ?_)
  · refine tm_iconst dX12_areAlike_24 ?_
    refine tm_istore_n (L' := [(1, .int (iI 0)), (0, .ref b)]) dX12_areAlike_25 rfl (by decide) rfl ?_
    refine tm_iconst dX12_areAlike_26 ?_
    refine tm_istore_n (L' := [(2, .int (iI 0)), (1, .int (iI 0)), (0, .ref b)]) dX12_areAlike_27 rfl (by decide) rfl ?_
    refine tm_sub [0, 1, 2] rfl (f_areA1 (d) (σ0 := σ) hR hit hpar hnam hgd hr1 hr2 hb2 hC (fun a24 k25 σ26 F15 R16 f17 f18 f19 f20 f21 f22 f23 => ?_) _ (0) (0) σ Fr.rfl hR (by omega) hl hbo hbh hss hsc ⟨⟨Int.le_refl _, by omega⟩, Int.le_refl _, by omega⟩ rfl)
    show Tm _ _ 247 b σ26 [(2, .int (iI k25)), (1, .int (iI a24)), (0, .ref b)] [] _
    refine tm_iload_n dX12_areAlike_247 rfl 1 rfl ?_
    exact tm_zret (v := a24) rfl (by omega) dX12_areAlike_248 (⟨_, rfl, f17, (Fr.rfl.trans (Fr.sub F15 (by decide) (by decide) (by decide))), R16, f18, f19, f20, f21, f22, f23⟩)
  · refine tm_aload_n dX12_areAlike_13 rfl 0 rfl ?_
    refine tm_callV (M := m_X12_areAlike) (pc := 14) (ix := 593) (M' := m_X12_arePrintsAlike) (As := []) (rest := []) dX12_areAlike_14 ok_X12_arePrintsAlike im_X12_arePrintsAlike se_X12_arePrintsAlike ml12_593 np_X12_arePrintsAlike rfl rfl (Nat.le_of_ble_eq_true rfl) (Nat.le_of_ble_eq_true rfl) rfl (c_X12_arePrintsAlike (d + 6) (σ := σ)  hR) (fun r27 σ28 hp => ?_)
    obtain ⟨v29, rfl, rfl, f30⟩ := hp
    show Tm _ _ 17 b σ [(0, .ref b)] [.int (iI v29)] _
    refine tm_if_eq (tgt := 24) dX12_areAlike_17 (by decide) ⟨by omega, by omega⟩ (fun h32 => ?_) (fun h32 => ?_)
    · refine tm_iconst dX12_areAlike_24 ?_
      refine tm_istore_n (L' := [(1, .int (iI 0)), (0, .ref b)]) dX12_areAlike_25 rfl (by decide) rfl ?_
      refine tm_iconst dX12_areAlike_26 ?_
      refine tm_istore_n (L' := [(2, .int (iI 0)), (1, .int (iI 0)), (0, .ref b)]) dX12_areAlike_27 rfl (by decide) rfl ?_
      refine tm_sub [0, 1, 2] rfl (f_areA1 (d) (σ0 := σ) hR hit hpar hnam hgd hr1 hr2 hb2 hC (fun a45 k46 σ47 F36 R37 f38 f39 f40 f41 f42 f43 f44 => ?_) _ (0) (0) σ Fr.rfl hR (by omega) hl hbo hbh hss hsc ⟨⟨Int.le_refl _, by omega⟩, Int.le_refl _, by omega⟩ rfl)
      show Tm _ _ 247 b σ47 [(2, .int (iI k46)), (1, .int (iI a45)), (0, .ref b)] [] _
      refine tm_iload_n dX12_areAlike_247 rfl 1 rfl ?_
      exact tm_zret (v := a45) rfl (by omega) dX12_areAlike_248 (⟨_, rfl, f38, (Fr.rfl.trans (Fr.sub F36 (by decide) (by decide) (by decide))), R37, f39, f40, f41, f42, f43, f44⟩)
    · refine tm_iconst dX12_areAlike_20 ?_
      refine tm_goto (tgt := 25) dX12_areAlike_21 (by decide) ?_
      refine tm_istore_n (L' := [(1, .int (iI 1)), (0, .ref b)]) dX12_areAlike_25 rfl (by decide) rfl ?_
      refine tm_iconst dX12_areAlike_26 ?_
      refine tm_istore_n (L' := [(2, .int (iI 0)), (1, .int (iI 1)), (0, .ref b)]) dX12_areAlike_27 rfl (by decide) rfl ?_
      refine tm_sub [0, 1, 2] rfl (f_areA1 (d) (σ0 := σ) hR hit hpar hnam hgd hr1 hr2 hb2 hC (fun a60 k61 σ62 F51 R52 f53 f54 f55 f56 f57 f58 f59 => ?_) _ (1) (0) σ Fr.rfl hR (by omega) hl hbo hbh hss hsc ⟨⟨Int.le_refl _, by omega⟩, Int.le_refl _, by omega⟩ rfl)
      show Tm _ _ 247 b σ62 [(2, .int (iI k61)), (1, .int (iI a60)), (0, .ref b)] [] _
      refine tm_iload_n dX12_areAlike_247 rfl 1 rfl ?_
      exact tm_zret (v := a60) rfl (by omega) dX12_areAlike_248 (⟨_, rfl, f53, (Fr.rfl.trans (Fr.sub F51 (by decide) (by decide) (by decide))), R52, f54, f55, f56, f57, f58, f59⟩)
end
