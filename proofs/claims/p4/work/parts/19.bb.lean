theorem dX12_oneRoutine_154 : decode cX12_oneRoutine 154 = .ok (.aload_n 0, 1) := by decide +kernel
theorem dX12_oneRoutine_155 : decode cX12_oneRoutine 155 = .ok (.invokevirtual 271, 3) := by decide +kernel
theorem dX12_oneRoutine_158 : decode cX12_oneRoutine 158 = .ok (.ifCond .eq 55, 3) := by decide +kernel
theorem dX12_oneRoutine_161 : decode cX12_oneRoutine 161 = .ok (.iload 4, 2) := by decide +kernel
theorem dX12_oneRoutine_163 : decode cX12_oneRoutine 163 = .ok (.aload_n 0, 1) := by decide +kernel
theorem dX12_oneRoutine_164 : decode cX12_oneRoutine 164 = .ok (.getfield 63, 3) := by decide +kernel
theorem dX12_oneRoutine_167 : decode cX12_oneRoutine 167 = .ok (.aload_n 0, 1) := by decide +kernel
theorem dX12_oneRoutine_168 : decode cX12_oneRoutine 168 = .ok (.getfield 268, 3) := by decide +kernel
theorem dX12_oneRoutine_171 : decode cX12_oneRoutine 171 = .ok (.iaload, 1) := by decide +kernel
theorem dX12_oneRoutine_172 : decode cX12_oneRoutine 172 = .ok (.if_icmp .ge 41, 3) := by decide +kernel
theorem dX12_oneRoutine_175 : decode cX12_oneRoutine 175 = .ok (.aload_n 0, 1) := by decide +kernel
theorem dX12_oneRoutine_176 : decode cX12_oneRoutine 176 = .ok (.getfield 72, 3) := by decide +kernel
theorem dX12_oneRoutine_179 : decode cX12_oneRoutine 179 = .ok (.bipush 12, 2) := by decide +kernel
theorem dX12_oneRoutine_181 : decode cX12_oneRoutine 181 = .ok (.aload_n 0, 1) := by decide +kernel
theorem dX12_oneRoutine_182 : decode cX12_oneRoutine 182 = .ok (.getfield 268, 3) := by decide +kernel
theorem dX12_oneRoutine_185 : decode cX12_oneRoutine 185 = .ok (.imul, 1) := by decide +kernel
theorem dX12_oneRoutine_186 : decode cX12_oneRoutine 186 = .ok (.iload 4, 2) := by decide +kernel
theorem dX12_oneRoutine_188 : decode cX12_oneRoutine 188 = .ok (.iadd, 1) := by decide +kernel
theorem dX12_oneRoutine_189 : decode cX12_oneRoutine 189 = .ok (.laload, 1) := by decide +kernel
theorem dX12_oneRoutine_190 : decode cX12_oneRoutine 190 = .ok (.aload_n 0, 1) := by decide +kernel
theorem dX12_oneRoutine_191 : decode cX12_oneRoutine 191 = .ok (.getfield 219, 3) := by decide +kernel
theorem dX12_oneRoutine_194 : decode cX12_oneRoutine 194 = .ok (.lcmp, 1) := by decide +kernel
theorem dX12_oneRoutine_195 : decode cX12_oneRoutine 195 = .ok (.ifCond .ne 12, 3) := by decide +kernel
theorem dX12_oneRoutine_207 : decode cX12_oneRoutine 207 = .ok (.iinc 4 1, 3) := by decide +kernel
theorem dX12_oneRoutine_210 : decode cX12_oneRoutine 210 = .ok (.goto (-56), 3) := by decide +kernel
theorem dX12_oneRoutine_198 : decode cX12_oneRoutine 198 = .ok (.aload_n 0, 1) := by decide +kernel
theorem dX12_oneRoutine_199 : decode cX12_oneRoutine 199 = .ok (.iconst 2, 1) := by decide +kernel
theorem dX12_oneRoutine_200 : decode cX12_oneRoutine 200 = .ok (.aload_n 0, 1) := by decide +kernel
theorem dX12_oneRoutine_201 : decode cX12_oneRoutine 201 = .ok (.getfield 216, 3) := by decide +kernel
theorem dX12_oneRoutine_204 : decode cX12_oneRoutine 204 = .ok (.invokevirtual 274, 3) := by decide +kernel
set_option maxHeartbeats 4000000 in
set_option maxRecDepth 20000 in
theorem l_dup (d : Nat) {b : Nat} {σ0 : MS} {m : Int} {mo : Int} {p : Int} {post : Option Value → MS → Prop} (hR0 : RG σ0) (hn0 : NN σ0) (hr0 : 0 ≤ σ0.1 30 ∧ σ0.1 30 ≤ 2000) (h1 : σ0.1 25 = 1) (hx_213 : ∀ (i : Int) (σ : MS) , (Fr [26, 27] [] [] σ0 σ) → (RG σ) → (FLT σ0 σ) → (DUF σ0 σ) → (σ = DPA (σ0.1 19) σ0) → Tm (d + 3) m_X12_oneRoutine 213 b σ [(4, .int (iI i)), (3, .int (iI mo)), (2, .int (iI m)), (1, .int (iI p)), (0, .ref b)] [] post) : ∀ (n : Nat) (i : Int) (σ : MS) , (Fr [26, 27] [] [] σ0 σ) → (RG σ) → ((0 ≤ i ∧ i ≤ 12) ∧ (i = 0 ∨ (σ0.1 30 < 6 ∧ i ≤ σ0.2.1 35 (σ0.1 30)))) → (FLT σ0 σ) → (σ.1 26 = 0 → ∀ j, 0 ≤ j → j < i → σ0.2.2 38 (12 * σ0.1 30 + j) ≠ σ0.2.2 24 0) → (σ = DPN i (σ0.1 19) σ0) → (13 - i).toNat = n → Tm (d + 3) m_X12_oneRoutine 154 b σ [(4, .int (iI i)), (3, .int (iI mo)), (2, .int (iI m)), (1, .int (iI p)), (0, .ref b)] [] post := by
  intro n
  induction n using Nat.strongRecOn with
  | _ n ih =>
    intro i σ hF hR h0 hfl hd hdp hm
    have e30 : σ.1 30 = σ0.1 30 := hF.1 30 (by decide)
    have e25 : σ.1 25 = σ0.1 25 := hF.1 25 (by decide)
    have e19 : σ.1 19 = σ0.1 19 := hF.1 19 (by decide)
    refine tm_aload_n dX12_oneRoutine_154 rfl 4 rfl ?_
    refine tm_callV (M := m_X12_oneRoutine) (pc := 155) (ix := 271) (M' := m_X12_isKept) (As := []) (rest := []) dX12_oneRoutine_155 ok_X12_isKept im_X12_isKept se_X12_isKept ml12_271 np_X12_isKept rfl rfl (Nat.le_of_ble_eq_true rfl) (Nat.le_of_ble_eq_true rfl) rfl (c_X12_isKept (d + 1) (σ := σ)  hR) (fun r1 σ2 hp => ?_)
    obtain ⟨v3, rfl, rfl, f4, f5⟩ := hp
    show Tm _ _ 158 b σ [(4, .int (iI i)), (3, .int (iI mo)), (2, .int (iI m)), (1, .int (iI p)), (0, .ref b)] [.int (iI v3)] _
    refine tm_if_eq (tgt := 213) dX12_oneRoutine_158 (by decide) ⟨by omega, by omega⟩ (fun h6 => ?_) (fun h6 => ?_)
    · exact tm_sub [0, 1, 2, 3, 4] rfl (hx_213 (i) σ (Fr.rfl.trans (Fr.sub hF (by decide) (by decide) (by decide))) hR hfl (fun a b j c e => absurd b (by omega)) (DPN.fin1 hdp (by omega) (by omega)))
    · have hn1 := hn0 (σ0.1 30) (by omega) (by omega)
      refine tm_iload dX12_oneRoutine_161 0 rfl ?_
      refine tm_aload_n dX12_oneRoutine_163 rfl 4 rfl ?_
      refine tm_get (k := 35) (v := .ref (b + 1 + 16)) lay_12 dX12_oneRoutine_164 (by decide) fl12_63 rfl ?_
      refine tm_aload_n dX12_oneRoutine_167 rfl 4 rfl ?_
      refine tm_getS (k := 30) (t := σ0.1 30) dX12_oneRoutine_168 (by decide) fl12_268 rfl (rs_F hF (by decide) (rfl)) ?_
      have g7 := RG.s hR0 30
      refine tm_iald (z := σ0.1 30) (v := σ0.2.1 35 (σ0.1 30)) dX12_oneRoutine_171 (show mT[16]? = some (35, 0, 6) from rfl) (by omega) (by omega) (by decide) (ra_F hF (by decide) (rfl)) ?_
      have g8 := RG.a hR0 35 (σ0.1 30)
      refine tm_icmp_ge (tgt := 213) dX12_oneRoutine_172 (by decide) ⟨by omega, by omega⟩ ⟨by omega, by omega⟩ (fun h10 => ?_) (fun h10 => ?_)
      · exact tm_sub [0, 1, 2, 3, 4] rfl (hx_213 (i) σ (Fr.rfl.trans (Fr.sub hF (by decide) (by decide) (by decide))) hR hfl (fun a b j c e => hd a j c (by omega)) (DPN.fin2 hdp (by omega) (by omega)))
      · refine tm_aload_n dX12_oneRoutine_175 rfl 4 rfl ?_
        refine tm_get (k := 38) (v := .ref (b + 1 + 19)) lay_12 dX12_oneRoutine_176 (by decide) fl12_72 rfl ?_
        refine tm_bipush dX12_oneRoutine_179 (by decide) ?_
        refine tm_aload_n dX12_oneRoutine_181 rfl 4 rfl ?_
        refine tm_getS (k := 30) (t := σ0.1 30) dX12_oneRoutine_182 (by decide) fl12_268 rfl (rs_F hF (by decide) (rfl)) ?_
        have g11 := RG.s hR0 30
        refine tm_imul dX12_oneRoutine_185 ?_
        refine tm_iload dX12_oneRoutine_186 0 rfl ?_
        refine tm_iadd dX12_oneRoutine_188 ?_
        refine tm_lald (z := (12 * (σ0.1 30)) + i) (v := σ0.2.2 38 ((12 * (σ0.1 30)) + i)) dX12_oneRoutine_189 (show mT[19]? = some (38, 3, 72) from rfl) (by omega) (by omega) (by decide) (rj_F hF (by decide) (rfl)) ?_
        refine tm_aload_n dX12_oneRoutine_190 rfl 4 rfl ?_
        refine tm_getW (t := σ0.2.2 24 0) dX12_oneRoutine_191 fl12_219 (rj_F hF (by decide) (rfl)) ?_
        refine tm_lcmp dX12_oneRoutine_194 ?_
        have g12 := lcI_b (σ0.2.2 38 ((12 * (σ0.1 30)) + i)) (σ0.2.2 24 0)
        refine tm_if_ne (tgt := 207) dX12_oneRoutine_195 (by decide) ⟨by omega, by omega⟩ (fun h13 => ?_) (fun h13 => ?_)
        · have h13e : ¬ (σ0.2.2 38 ((12 * (σ0.1 30)) + i)) = (σ0.2.2 24 0) := fun q => h13 (lcI_0.mpr q)
          refine tm_iinc (q0 := 0) (L' := [(4, .int (iI (i + 1))), (3, .int (iI mo)), (2, .int (iI m)), (1, .int (iI p)), (0, .ref b)]) dX12_oneRoutine_207 rfl (by decide) rfl ?_
          refine tm_goto (tgt := 154) dX12_oneRoutine_210 (by decide) ?_
          exact tm_sub [0, 1, 2, 3, 4] rfl (ih _ (by omega) (i + 1) σ (Fr.rfl.trans (Fr.sub hF (by decide) (by decide) (by decide))) hR (by omega) hfl (fun a j c e => (Classical.em (j = i)).elim (fun z => by rw [z]; assumption) (fun z => hd a j c (by omega))) (DPN.no hdp (by assumption)) rfl)
        · have h13e := lcI_0.mp h13
          refine tm_aload_n dX12_oneRoutine_198 rfl 4 rfl ?_
          refine tm_iconst dX12_oneRoutine_199 ?_
          refine tm_aload_n dX12_oneRoutine_200 rfl 4 rfl ?_
          refine tm_getS (k := 19) (t := σ0.1 19) dX12_oneRoutine_201 (by decide) fl12_216 rfl (rs_F hF (by decide) (rfl)) ?_
          have g14 := RG.s hR0 19
          refine tm_callV (M := m_X12_oneRoutine) (pc := 204) (ix := 274) (M' := m_X12_note) (As := [.int (iI 2), .int (iI (σ0.1 19))]) (rest := []) dX12_oneRoutine_204 ok_X12_note im_X12_note se_X12_note ml12_274 np_X12_note rfl rfl (Nat.le_of_ble_eq_true rfl) (Nat.le_of_ble_eq_true rfl) rfl (c2_X12_note (d + 1) (σ := σ) (f := 2) (p := σ0.1 19) hR (by omega) (by omega)) (fun r15 σ16 hp => ?_)
          obtain ⟨rfl, f18, f19, f20, f21, f22⟩ := hp
          show Tm _ _ 207 b σ16 [(4, .int (iI i)), (3, .int (iI mo)), (2, .int (iI m)), (1, .int (iI p)), (0, .ref b)] [] _
          refine tm_iinc (q0 := 0) (L' := [(4, .int (iI (i + 1))), (3, .int (iI mo)), (2, .int (iI m)), (1, .int (iI p)), (0, .ref b)]) dX12_oneRoutine_207 rfl (by decide) rfl ?_
          refine tm_goto (tgt := 154) dX12_oneRoutine_210 (by decide) ?_
          exact tm_sub [0, 1, 2, 3, 4] rfl (ih _ (by omega) (i + 1) σ16 ((Fr.rfl.trans (Fr.sub hF (by decide) (by decide) (by decide))).trans (Fr.sub f18 (by decide) (by decide) (by decide))) f19 (by omega) (hfl.trans f20) (fun a => absurd a (f21 (by omega))) (DPN.yes hdp h0.1.1 (by first | assumption | omega) (by rw [f22])) rfl)
