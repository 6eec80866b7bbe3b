section
theorem dX12_beside_87 : decode cX12_beside 87 = .ok (.iload 9, 2) := by decide +kernel
theorem dX12_beside_89 : decode cX12_beside 89 = .ok (.ifCond .ne 34, 3) := by decide +kernel
theorem dX12_beside_92 : decode cX12_beside 92 = .ok (.iload 8, 2) := by decide +kernel
theorem dX12_beside_94 : decode cX12_beside 94 = .ok (.ifCond .le 29, 3) := by decide +kernel
theorem dX12_beside_97 : decode cX12_beside 97 = .ok (.aload_n 0, 1) := by decide +kernel
theorem dX12_beside_98 : decode cX12_beside 98 = .ok (.iconst 1, 1) := by decide +kernel
theorem dX12_beside_99 : decode cX12_beside 99 = .ok (.invokevirtual 569, 3) := by decide +kernel
theorem dX12_beside_102 : decode cX12_beside 102 = .ok (.istore 9, 2) := by decide +kernel
theorem dX12_beside_104 : decode cX12_beside 104 = .ok (.iload 8, 2) := by decide +kernel
theorem dX12_beside_106 : decode cX12_beside 106 = .ok (.iload 9, 2) := by decide +kernel
theorem dX12_beside_108 : decode cX12_beside 108 = .ok (.iconst 3, 1) := by decide +kernel
theorem dX12_beside_109 : decode cX12_beside 109 = .ok (.if_icmp .ne 7, 3) := by decide +kernel
theorem dX12_beside_116 : decode cX12_beside 116 = .ok (.iconst 1, 1) := by decide +kernel
theorem dX12_beside_117 : decode cX12_beside 117 = .ok (.isub, 1) := by decide +kernel
theorem dX12_beside_118 : decode cX12_beside 118 = .ok (.istore 8, 2) := by decide +kernel
theorem dX12_beside_120 : decode cX12_beside 120 = .ok (.goto (-33), 3) := by decide +kernel
theorem dX12_beside_112 : decode cX12_beside 112 = .ok (.iconst 0, 1) := by decide +kernel
theorem dX12_beside_113 : decode cX12_beside 113 = .ok (.goto 4, 3) := by decide +kernel
set_option maxHeartbeats 4000000 in
set_option maxRecDepth 20000 in
theorem l_bes1 (d : Nat) {b : Nat} {σ0 : MS} {cnt : Int} {L0 : Int} {post : Option Value → MS → Prop} (hR0 : RG σ0) (hit : ITM σ0) (hpar : PAR σ0) (hbk : BKA σ0 1) (hx_123 : ∀ (s9 : Int) (lf : Int) (σ : MS) , (Fr [] [73, 75, 76, 77, 78, 79, 80, 81, 82] [] σ0 σ) → (RG σ) → (0 ≤ s9 ∧ s9 ≤ 3 ∧ 0 ≤ lf ∧ lf ≤ 20000) → (s9 ≠ 2 → RUN σ 1) → (XM 1 σ0 σ) → (0 ≤ σ.2.1 76 1 ∧ (s9 ≠ 3 → σ.2.1 76 1 ≤ 20000 - lf) ∧ (s9 = 3 → σ.2.1 76 1 ≤ 20001 - lf)) → (lf ≤ L0 ∧ (s9 = 1 → lf < L0)) → Tm (d + 4) m_X12_beside 123 b σ [(9, .int (iI s9)), (8, .int (iI lf)), (7, .int (iI cnt)), (0, .ref b)] [] post) : ∀ (n : Nat) (s9 : Int) (lf : Int) (σ : MS) , (Fr [] [73, 75, 76, 77, 78, 79, 80, 81, 82] [] σ0 σ) → (RG σ) → (0 ≤ s9 ∧ s9 ≤ 3 ∧ 0 ≤ lf ∧ lf ≤ 20000) → (s9 ≠ 2 → RUN σ 1) → (XM 1 σ0 σ) → (0 ≤ σ.2.1 76 1 ∧ (s9 ≠ 3 → σ.2.1 76 1 ≤ 20000 - lf) ∧ (s9 = 3 → σ.2.1 76 1 ≤ 20001 - lf)) → (lf ≤ L0 ∧ (s9 = 1 → lf < L0)) → (4 * lf + 3 - s9).toNat = n → Tm (d + 4) m_X12_beside 87 b σ [(9, .int (iI s9)), (8, .int (iI lf)), (7, .int (iI cnt)), (0, .ref b)] [] post := by
  intro n
  induction n using Nat.strongRecOn with
  | _ n ih =>
    intro s9 lf σ hF hR h0 hr1 hx hp hl hm
    refine tm_iload dX12_beside_87 0 rfl ?_
    refine tm_if_ne (tgt := 123) dX12_beside_89 (by decide) ⟨by omega, by omega⟩ (fun h1 => ?_) (fun h1 => ?_)
    · exact tm_sub [0, 1, 2, 3] rfl (hx_123 (s9) (lf) σ (Fr.rfl.trans (Fr.sub hF (by decide) (by decide) (by decide))) hR (by omega) hr1 hx (by omega) (by omega))
    · refine tm_iload dX12_beside_92 1 rfl ?_
      refine tm_if_le (tgt := 123) dX12_beside_94 (by decide) ⟨by omega, by omega⟩ (fun h2 => ?_) (fun h2 => ?_)
      · exact tm_sub [0, 1, 2, 3] rfl (hx_123 (s9) (lf) σ (Fr.rfl.trans (Fr.sub hF (by decide) (by decide) (by decide))) hR (by omega) hr1 hx (by omega) (by omega))
      · refine tm_aload_n dX12_beside_97 rfl 3 rfl ?_
        refine tm_iconst dX12_beside_98 ?_
        refine tm_callV (M := m_X12_beside) (pc := 99) (ix := 569) (M' := m_X12_step) (As := [.int (iI 1)]) (rest := []) dX12_beside_99 ok_X12_step im_X12_step se_X12_step ml12_569 np_X12_step rfl rfl (Nat.le_of_ble_eq_true rfl) (Nat.le_of_ble_eq_true rfl) rfl (c_X12_step (d) (σ := σ) (m := 1) hR (by decide) (hr1 (by omega)) (hbk.fr hF (by decide) (by decide)) (hit.fr hF (by decide)) (hpar.fr hF (by decide)) (by omega)) (fun r3 σ4 hp => ?_)
        obtain ⟨v5, rfl, f6, f7, f8, f9, f10, f11⟩ := hp
        show Tm _ _ 102 b σ4 [(9, .int (iI s9)), (8, .int (iI lf)), (7, .int (iI cnt)), (0, .ref b)] [.int (iI v5)] _
        have hrs : v5 ≠ 2 → RUN σ4 1 := fun q => by rcases f8 with ⟨a, e1⟩ | ⟨a, _⟩ | ⟨_, h⟩; rw [e1]; exact hr1 (by omega); exact absurd a q; exact h
        have hv : 0 ≤ v5 ∧ v5 ≤ 3 := by rcases f8 with ⟨a, _⟩ | ⟨a, _⟩ | ⟨a, _⟩ <;> omega
        have hxs := hx.trans f9
        have hps := f10
        refine tm_istore (L' := [(9, .int (iI v5)), (8, .int (iI lf)), (7, .int (iI cnt)), (0, .ref b)]) dX12_beside_102 (by decide) rfl ?_
        refine tm_iload dX12_beside_104 1 rfl ?_
        refine tm_iload dX12_beside_106 0 rfl ?_
        refine tm_iconst dX12_beside_108 ?_
        refine tm_icmp_ne (tgt := 116) dX12_beside_109 (by decide) ⟨by omega, by omega⟩ ⟨by decide, by decide⟩ (fun h12 => ?_) (fun h12 => ?_)
        · refine tm_iconst dX12_beside_116 ?_
          refine tm_isub dX12_beside_117 ?_
          refine tm_istore (L' := [(8, .int (iI (lf - 1))), (9, .int (iI v5)), (7, .int (iI cnt)), (0, .ref b)]) dX12_beside_118 (by decide) rfl ?_
          refine tm_goto (tgt := 87) dX12_beside_120 (by decide) ?_
          exact tm_sub [1, 0, 2, 3] rfl (ih _ (by omega) (v5) (lf - 1) σ4 ((Fr.rfl.trans (Fr.sub hF (by decide) (by decide) (by decide))).trans (Fr.sub f6 (by decide) (by decide) (by decide))) f7 (by omega) hrs hxs (by omega) (by omega) rfl)
        · refine tm_iconst dX12_beside_112 ?_
          refine tm_goto (tgt := 117) dX12_beside_113 (by decide) ?_
          refine tm_isub dX12_beside_117 ?_
          refine tm_istore (L' := [(8, .int (iI (lf - 0))), (9, .int (iI v5)), (7, .int (iI cnt)), (0, .ref b)]) dX12_beside_118 (by decide) rfl ?_
          refine tm_goto (tgt := 87) dX12_beside_120 (by decide) ?_
          exact tm_sub [1, 0, 2, 3] rfl (ih _ (by omega) (v5) (lf - 0) σ4 ((Fr.rfl.trans (Fr.sub hF (by decide) (by decide) (by decide))).trans (Fr.sub f6 (by decide) (by decide) (by decide))) f7 (by omega) hrs hxs (by omega) (by omega) rfl)
theorem dX12_beside_139 : decode cX12_beside 139 = .ok (.aload_n 0, 1) := by decide +kernel
theorem dX12_beside_140 : decode cX12_beside 140 = .ok (.iconst 2, 1) := by decide +kernel
theorem dX12_beside_141 : decode cX12_beside 141 = .ok (.invokevirtual 569, 3) := by decide +kernel
theorem dX12_beside_144 : decode cX12_beside 144 = .ok (.istore 10, 2) := by decide +kernel
theorem dX12_beside_146 : decode cX12_beside 146 = .ok (.goto (-12), 3) := by decide +kernel
theorem dX12_beside_134 : decode cX12_beside 134 = .ok (.iload 10, 2) := by decide +kernel
theorem dX12_beside_136 : decode cX12_beside 136 = .ok (.ifCond .ne 13, 3) := by decide +kernel
set_option maxHeartbeats 4000000 in
set_option maxRecDepth 20000 in
theorem l_bes2 (d : Nat) {b : Nat} {σ0 : MS} {cnt : Int} {s9 : Int} {lf : Int} {post : Option Value → MS → Prop} (hR0 : RG σ0) (hit : ITM σ0) (hpar : PAR σ0) (hpl : PLA σ0) (hP : 0 ≤ σ0.2.1 76 2 ∧ σ0.2.1 76 2 ≤ 900000000) (hx_149 : ∀ (s10 : Int) (σ : MS) , (Fr [] [73, 75, 76, 77, 78, 79, 80, 81, 82] [] σ0 σ) → (RG σ) → (1 ≤ s10 ∧ s10 ≤ 3) → (s10 ≠ 2 → RUN σ 2) → (XM 2 σ0 σ) → (0 ≤ σ.2.1 76 2 ∧ σ.2.1 76 2 ≤ σ0.2.1 76 2 + 8004) → Tm (d + 4) m_X12_beside 149 b σ [(10, .int (iI s10)), (9, .int (iI s9)), (8, .int (iI lf)), (7, .int (iI cnt)), (0, .ref b)] [] post) : ∀ (n : Nat) (s10 : Int) (σ : MS) , (Fr [] [73, 75, 76, 77, 78, 79, 80, 81, 82] [] σ0 σ) → (RG σ) → (RUN σ 2) → (XM 2 σ0 σ) → (0 ≤ σ.2.1 76 2 ∧ σ.2.1 76 2 + rk σ ≤ σ0.2.1 76 2 + 8003) → (rk σ).toNat = n → Tm (d + 4) m_X12_beside 139 b σ [(9, .int (iI s9)), (8, .int (iI lf)), (7, .int (iI cnt)), (0, .ref b)] [] post := by
  intro n
  induction n using Nat.strongRecOn with
  | _ n ih =>
    intro s10 σ hF hR hr2 hx hp hm
    have hpl2 := hpl.fr hF (by decide) (by decide)
    have hrb := rk_b hr2 hpl2.1
    refine tm_aload_n dX12_beside_139 rfl 3 rfl ?_
    refine tm_iconst dX12_beside_140 ?_
    refine tm_callV (M := m_X12_beside) (pc := 141) (ix := 569) (M' := m_X12_step) (As := [.int (iI 2)]) (rest := []) dX12_beside_141 ok_X12_step im_X12_step se_X12_step ml12_569 np_X12_step rfl rfl (Nat.le_of_ble_eq_true rfl) (Nat.le_of_ble_eq_true rfl) rfl (c_X12_step (d) (σ := σ) (m := 2) hR (by decide) hr2 hpl2.1 (hit.fr hF (by decide)) (hpar.fr hF (by decide)) (by omega)) (fun r1 σ2 hp => ?_)
    obtain ⟨v3, rfl, f4, f5, f6, f7, f8, f9⟩ := hp
    show Tm _ _ 144 b σ2 [(9, .int (iI s9)), (8, .int (iI lf)), (7, .int (iI cnt)), (0, .ref b)] [.int (iI v3)] _
    have hrs : v3 ≠ 2 → RUN σ2 2 := fun q => by rcases f6 with ⟨a, e1⟩ | ⟨a, _⟩ | ⟨_, h⟩; rw [e1]; exact hr2; exact absurd a q; exact h
    have hv : 0 ≤ v3 ∧ v3 ≤ 3 := by rcases f6 with ⟨a, _⟩ | ⟨a, _⟩ | ⟨a, _⟩ <;> omega
    have hfl : v3 = 0 → rk σ2 < rk σ ∧ 0 ≤ rk σ2 := fun q => ⟨rk_fall hr2 hpl2.2 (hrs (by omega)) f4 (by decide) (by decide) (by have z := f9; rw [q] at z; exact z), (rk_b (hrs (by omega)) (hpl2.1.fr f4 (by decide) (by decide))).1⟩
    have hxs := hx.trans f7
    have hps := f8
    refine tm_istore (L' := [(10, .int (iI v3)), (9, .int (iI s9)), (8, .int (iI lf)), (7, .int (iI cnt)), (0, .ref b)]) dX12_beside_144 (by decide) rfl ?_
    refine tm_goto (tgt := 134) dX12_beside_146 (by decide) ?_
    refine tm_iload dX12_beside_134 0 rfl ?_
    refine tm_if_ne (tgt := 149) dX12_beside_136 (by decide) ⟨by omega, by omega⟩ (fun h10 => ?_) (fun h10 => ?_)
    · exact tm_sub [0, 1, 2, 3, 4] rfl (hx_149 (v3) σ2 ((Fr.rfl.trans (Fr.sub hF (by decide) (by decide) (by decide))).trans (Fr.sub f4 (by decide) (by decide) (by decide))) f5 (by omega) hrs hxs (by omega))
    · exact tm_sub [1, 2, 3, 4] rfl (ih _ (by have := hfl (by omega); omega) (0) σ2 ((Fr.rfl.trans (Fr.sub hF (by decide) (by decide) (by decide))).trans (Fr.sub f4 (by decide) (by decide) (by decide))) f5 (hrs (by omega)) hxs (by have := hfl (by omega); omega) rfl)
theorem ml12_599 : Cond.methodLink RX12 599 yX12_areAlike ∈ pWW := pw10 (List.mem_of_getElem? (i := 85) rfl) rfl
theorem dX12_beside_84 : decode cX12_beside 84 = .ok (.iconst 0, 1) := by decide +kernel
theorem dX12_beside_85 : decode cX12_beside 85 = .ok (.istore 9, 2) := by decide +kernel
theorem dX12_beside_123 : decode cX12_beside 123 = .ok (.iload 9, 2) := by decide +kernel
theorem dX12_beside_125 : decode cX12_beside 125 = .ok (.ifCond .ne 6, 3) := by decide +kernel
theorem dX12_beside_131 : decode cX12_beside 131 = .ok (.iconst 0, 1) := by decide +kernel
theorem dX12_beside_132 : decode cX12_beside 132 = .ok (.istore 10, 2) := by decide +kernel
theorem dX12_beside_149 : decode cX12_beside 149 = .ok (.iload 9, 2) := by decide +kernel
theorem dX12_beside_151 : decode cX12_beside 151 = .ok (.iload 10, 2) := by decide +kernel
theorem dX12_beside_153 : decode cX12_beside 153 = .ok (.if_icmp .eq 9, 3) := by decide +kernel
theorem dX12_beside_162 : decode cX12_beside 162 = .ok (.iload 9, 2) := by decide +kernel
theorem dX12_beside_164 : decode cX12_beside 164 = .ok (.iconst 1, 1) := by decide +kernel
theorem dX12_beside_165 : decode cX12_beside 165 = .ok (.if_icmp .le 73, 3) := by decide +kernel
theorem dX12_beside_238 : decode cX12_beside 238 = .ok (.aload_n 0, 1) := by decide +kernel
theorem dX12_beside_239 : decode cX12_beside 239 = .ok (.invokevirtual 599, 3) := by decide +kernel
theorem dX12_beside_242 : decode cX12_beside 242 = .ok (.ifCond .ne 9, 3) := by decide +kernel
theorem dX12_beside_251 : decode cX12_beside 251 = .ok (.iinc 7 1, 3) := by decide +kernel
theorem dX12_beside_254 : decode cX12_beside 254 = .ok (.goto (-170), 3) := by decide +kernel
theorem dX12_beside_245 : decode cX12_beside 245 = .ok (.bipush (-2), 2) := by decide +kernel
theorem dX12_beside_247 : decode cX12_beside 247 = .ok (.iload 7, 2) := by decide +kernel
theorem dX12_beside_249 : decode cX12_beside 249 = .ok (.isub, 1) := by decide +kernel
theorem dX12_beside_250 : decode cX12_beside 250 = .ok (.ireturn, 1) := by decide +kernel
theorem dX12_beside_168 : decode cX12_beside 168 = .ok (.aload_n 0, 1) := by decide +kernel
theorem dX12_beside_169 : decode cX12_beside 169 = .ok (.invokevirtual 593, 3) := by decide +kernel
theorem dX12_beside_172 : decode cX12_beside 172 = .ok (.ifCond .eq 28, 3) := by decide +kernel
theorem dX12_beside_200 : decode cX12_beside 200 = .ok (.iconst 0, 1) := by decide +kernel
theorem dX12_beside_201 : decode cX12_beside 201 = .ok (.istore 11, 2) := by decide +kernel
theorem dX12_beside_203 : decode cX12_beside 203 = .ok (.aload_n 0, 1) := by decide +kernel
theorem dX12_beside_204 : decode cX12_beside 204 = .ok (.getfield 182, 3) := by decide +kernel
theorem dX12_beside_207 : decode cX12_beside 207 = .ok (.iconst 2, 1) := by decide +kernel
theorem dX12_beside_208 : decode cX12_beside 208 = .ok (.iload 11, 2) := by decide +kernel
theorem dX12_beside_210 : decode cX12_beside 210 = .ok (.ifCond .eq 10, 3) := by decide +kernel
theorem dX12_beside_220 : decode cX12_beside 220 = .ok (.iconst 0, 1) := by decide +kernel
theorem dX12_beside_221 : decode cX12_beside 221 = .ok (.iastore, 1) := by decide +kernel
theorem dX12_beside_222 : decode cX12_beside 222 = .ok (.iload 11, 2) := by decide +kernel
theorem dX12_beside_224 : decode cX12_beside 224 = .ok (.ifCond .eq 8, 3) := by decide +kernel
theorem dX12_beside_232 : decode cX12_beside 232 = .ok (.bipush (-2), 2) := by decide +kernel
theorem dX12_beside_234 : decode cX12_beside 234 = .ok (.iload 7, 2) := by decide +kernel
theorem dX12_beside_236 : decode cX12_beside 236 = .ok (.isub, 1) := by decide +kernel
theorem dX12_beside_237 : decode cX12_beside 237 = .ok (.ireturn, 1) := by decide +kernel
theorem dX12_beside_175 : decode cX12_beside 175 = .ok (.iload 9, 2) := by decide +kernel
theorem dX12_beside_177 : decode cX12_beside 177 = .ok (.iconst 3, 1) := by decide +kernel
theorem dX12_beside_178 : decode cX12_beside 178 = .ok (.if_icmp .eq 18, 3) := by decide +kernel
theorem dX12_beside_196 : decode cX12_beside 196 = .ok (.iconst 1, 1) := by decide +kernel
theorem dX12_beside_197 : decode cX12_beside 197 = .ok (.goto 4, 3) := by decide +kernel
theorem dX12_beside_213 : decode cX12_beside 213 = .ok (.iload 9, 2) := by decide +kernel
theorem dX12_beside_215 : decode cX12_beside 215 = .ok (.iconst 1, 1) := by decide +kernel
theorem dX12_beside_216 : decode cX12_beside 216 = .ok (.isub, 1) := by decide +kernel
theorem dX12_beside_217 : decode cX12_beside 217 = .ok (.goto 4, 3) := by decide +kernel
theorem dX12_beside_227 : decode cX12_beside 227 = .ok (.iload 7, 2) := by decide +kernel
theorem dX12_beside_229 : decode cX12_beside 229 = .ok (.goto 8, 3) := by decide +kernel
theorem dX12_beside_181 : decode cX12_beside 181 = .ok (.aload_n 0, 1) := by decide +kernel
theorem dX12_beside_182 : decode cX12_beside 182 = .ok (.getfield 158, 3) := by decide +kernel
theorem dX12_beside_185 : decode cX12_beside 185 = .ok (.iconst 1, 1) := by decide +kernel
theorem dX12_beside_186 : decode cX12_beside 186 = .ok (.iaload, 1) := by decide +kernel
theorem dX12_beside_187 : decode cX12_beside 187 = .ok (.aload_n 0, 1) := by decide +kernel
theorem dX12_beside_188 : decode cX12_beside 188 = .ok (.getfield 158, 3) := by decide +kernel
theorem dX12_beside_191 : decode cX12_beside 191 = .ok (.iconst 2, 1) := by decide +kernel
theorem dX12_beside_192 : decode cX12_beside 192 = .ok (.iaload, 1) := by decide +kernel
theorem dX12_beside_193 : decode cX12_beside 193 = .ok (.if_icmp .ne 7, 3) := by decide +kernel
theorem dX12_beside_156 : decode cX12_beside 156 = .ok (.bipush (-2), 2) := by decide +kernel
theorem dX12_beside_158 : decode cX12_beside 158 = .ok (.iload 7, 2) := by decide +kernel
theorem dX12_beside_160 : decode cX12_beside 160 = .ok (.isub, 1) := by decide +kernel
theorem dX12_beside_161 : decode cX12_beside 161 = .ok (.ireturn, 1) := by decide +kernel
theorem dX12_beside_128 : decode cX12_beside 128 = .ok (.iload 7, 2) := by decide +kernel
theorem dX12_beside_130 : decode cX12_beside 130 = .ok (.ireturn, 1) := by decide +kernel
set_option maxHeartbeats 4000000 in
set_option maxRecDepth 20000 in
theorem l_bes0 (d : Nat) {b : Nat} {σ0 : MS} {post : Option Value → MS → Prop} (hR0 : RG σ0) (hit : ITM σ0) (hpar : PAR σ0) (hnam : NAM σ0) (hgd : GDA σ0) (hpl : PLA σ0) (hret : ∀ (v : Int) (τ : MS), Fr [83, 84] [46, 47, 48, 49, 50, 51, 52, 53, 54, 55, 56, 57, 58, 73, 74, 75, 76, 77, 78, 79, 80, 81, 82, 86] [] σ0 τ → RG τ → LAB τ → BO 47 τ → BO 48 τ → SSA τ → SCA τ → X0 0 σ0 τ → post (some (.int (iI v))) τ) : ∀ (n : Nat) (cnt : Int) (lf : Int) (σ : MS) , (Fr [83, 84] [46, 47, 48, 49, 50, 51, 52, 53, 54, 55, 56, 57, 58, 73, 74, 75, 76, 77, 78, 79, 80, 81, 82, 86] [] σ0 σ) → (RG σ) → (0 ≤ cnt ∧ 0 ≤ lf ∧ cnt + lf ≤ 20000) → (LAB σ) → (BO 47 σ) → (BO 48 σ) → (SSA σ) → (SCA σ) → (RUN σ 1) → (RUN σ 2) → (X0 0 σ0 σ) → (0 ≤ σ.2.1 76 1 ∧ σ.2.1 76 1 ≤ 20000 - lf) → (0 ≤ σ.2.1 76 2 ∧ σ.2.1 76 2 ≤ 9000 * cnt) → ((σ.2.1 86 0 ≤ 1416 * cnt ∧ 0 ≤ σ.2.1 86 0) ∧ σ.2.1 86 1 ≤ 1416 * cnt ∧ 0 ≤ σ.2.1 86 1) → (lf).toNat = n → Tm (d + 9) m_X12_beside 84 b σ [(8, .int (iI lf)), (7, .int (iI cnt)), (0, .ref b)] [] post := by
  intro n
  induction n using Nat.strongRecOn with
  | _ n ih =>
    intro cnt lf σ hF hR h0 hl hbo hbh hss hsc hr1 hr2 hx hp1 hp2 hC hm
    refine tm_iconst dX12_beside_84 ?_
    refine tm_istore (L' := [(9, .int (iI 0)), (8, .int (iI lf)), (7, .int (iI cnt)), (0, .ref b)]) dX12_beside_85 (by decide) rfl ?_
    refine tm_sub [0, 1, 2, 3] rfl (l_bes1 (d + 5) (σ0 := σ) (cnt := cnt) (L0 := lf) hR (hit.fr (show Fr [83, 84] [46, 47, 48, 49, 50, 51, 52, 53, 54, 55, 56, 57, 58, 73, 74, 75, 76, 77, 78, 79, 80, 81, 82, 86] [] σ0 σ from (Fr.rfl.trans (Fr.sub hF (by decide) (by decide) (by decide)))) (by decide)) (hpar.fr (show Fr [83, 84] [46, 47, 48, 49, 50, 51, 52, 53, 54, 55, 56, 57, 58, 73, 74, 75, 76, 77, 78, 79, 80, 81, 82, 86] [] σ0 σ from (Fr.rfl.trans (Fr.sub hF (by decide) (by decide) (by decide)))) (by decide)) ((hgd.fr (show Fr [83, 84] [46, 47, 48, 49, 50, 51, 52, 53, 54, 55, 56, 57, 58, 73, 74, 75, 76, 77, 78, 79, 80, 81, 82, 86] [] σ0 σ from (Fr.rfl.trans (Fr.sub hF (by decide) (by decide) (by decide)))) (by decide) (by decide)).bka (by decide)) (fun s911 lf12 σ13 F4 R5 f6 f7 f8 f9 f10 => ?_) _ (0) (lf) σ Fr.rfl hR (by omega) (fun _ => hr1) XM.rfl (by omega) (by omega) rfl)
    show Tm _ _ 123 b σ13 [(9, .int (iI s911)), (8, .int (iI lf12)), (7, .int (iI cnt)), (0, .ref b)] [] _
    have ha0 := f6
    have ha1 := f7
    have ha2 := f8
    have ha3 := f9
    have ha4 := f10
    have hxa := hx.trans (ha2.x0 (by decide))
    refine tm_iload dX12_beside_123 0 rfl ?_
    refine tm_if_ne (tgt := 131) dX12_beside_125 (by decide) ⟨by omega, by omega⟩ (fun h14 => ?_) (fun h14 => ?_)
    · refine tm_iconst dX12_beside_131 ?_
      refine tm_istore (L' := [(10, .int (iI 0)), (9, .int (iI s911)), (8, .int (iI lf12)), (7, .int (iI cnt)), (0, .ref b)]) dX12_beside_132 (by decide) rfl ?_
      refine tm_iload dX12_beside_134 0 rfl ?_
      refine tm_if_ne (tgt := 149) dX12_beside_136 (by decide) ⟨by decide, by decide⟩ (fun h => absurd h (by decide)) (fun _ => ?_)
      refine tm_sub [1, 2, 3, 4] rfl (l_bes2 (d + 5) (σ0 := σ13) (cnt := cnt) (s9 := s911) (lf := lf12) R5 (hit.fr (show Fr [83, 84] [46, 47, 48, 49, 50, 51, 52, 53, 54, 55, 56, 57, 58, 73, 74, 75, 76, 77, 78, 79, 80, 81, 82, 86] [] σ0 σ13 from ((Fr.rfl.trans (Fr.sub hF (by decide) (by decide) (by decide))).trans (Fr.sub F4 (by decide) (by decide) (by decide)))) (by decide)) (hpar.fr (show Fr [83, 84] [46, 47, 48, 49, 50, 51, 52, 53, 54, 55, 56, 57, 58, 73, 74, 75, 76, 77, 78, 79, 80, 81, 82, 86] [] σ0 σ13 from ((Fr.rfl.trans (Fr.sub hF (by decide) (by decide) (by decide))).trans (Fr.sub F4 (by decide) (by decide) (by decide)))) (by decide)) (hpl.fr (show Fr [83, 84] [46, 47, 48, 49, 50, 51, 52, 53, 54, 55, 56, 57, 58, 73, 74, 75, 76, 77, 78, 79, 80, 81, 82, 86] [] σ0 σ13 from ((Fr.rfl.trans (Fr.sub hF (by decide) (by decide) (by decide))).trans (Fr.sub F4 (by decide) (by decide) (by decide)))) (by decide) (by decide)) (by rw [(ha2.1 2 (by decide)).2]; omega) (fun s1024 σ25 F18 R19 f20 f21 f22 f23 => ?_) _ (0) σ13 Fr.rfl R5 (hr2.x0 (ha2.x0 (by decide)) F4 (by decide) (by decide)) XM.rfl (by have q := rk_b (hr2.x0 (ha2.x0 (by decide)) F4 (by decide) (by decide)) (hpl.1.fr (show Fr [83, 84] [46, 47, 48, 49, 50, 51, 52, 53, 54, 55, 56, 57, 58, 73, 74, 75, 76, 77, 78, 79, 80, 81, 82, 86] [] σ0 σ13 from ((Fr.rfl.trans (Fr.sub hF (by decide) (by decide) (by decide))).trans (Fr.sub F4 (by decide) (by decide) (by decide)))) (by decide) (by decide)); rw [(ha2.1 2 (by decide)).2]; omega) rfl)
      show Tm _ _ 149 b σ25 [(10, .int (iI s1024)), (9, .int (iI s911)), (8, .int (iI lf12)), (7, .int (iI cnt)), (0, .ref b)] [] _
      have hb0_ := f20
      have hb1_ := f21
      have hb2_ := f22
      have hb3_ := f23
      have hxb := hxa.trans (hb2_.x0 (by decide))
      refine tm_iload dX12_beside_149 1 rfl ?_
      refine tm_iload dX12_beside_151 0 rfl ?_
      refine tm_icmp_eq (tgt := 162) dX12_beside_153 (by decide) ⟨by omega, by omega⟩ ⟨by omega, by omega⟩ (fun h26 => ?_) (fun h26 => ?_)
      · refine tm_iload dX12_beside_162 1 rfl ?_
        refine tm_iconst dX12_beside_164 ?_
        refine tm_icmp_le (tgt := 238) dX12_beside_165 (by decide) ⟨by omega, by omega⟩ ⟨by decide, by decide⟩ (fun h27 => ?_) (fun h27 => ?_)
        · refine tm_aload_n dX12_beside_238 rfl 4 rfl ?_
          have hr1z := (ha1 (by omega)).x0 (hb2_.x0 (by decide)) F18 (by decide) (by decide)
          have h86z := F18.2.1 86 (by decide)
          have h86y := F4.2.1 86 (by decide)
          rw [h86y] at h86z
          have hlz := hl.fr (show Fr [] [73, 75, 76, 77, 78, 79, 80, 81, 82] [] σ σ25 from ((Fr.rfl.trans (Fr.sub F4 (by decide) (by decide) (by decide))).trans (Fr.sub F18 (by decide) (by decide) (by decide)))) (by decide)
          have hboz := hbo.fr (show Fr [] [73, 75, 76, 77, 78, 79, 80, 81, 82] [] σ σ25 from ((Fr.rfl.trans (Fr.sub F4 (by decide) (by decide) (by decide))).trans (Fr.sub F18 (by decide) (by decide) (by decide)))) (by decide)
          have hbhz := hbh.fr (show Fr [] [73, 75, 76, 77, 78, 79, 80, 81, 82] [] σ σ25 from ((Fr.rfl.trans (Fr.sub F4 (by decide) (by decide) (by decide))).trans (Fr.sub F18 (by decide) (by decide) (by decide)))) (by decide)
          have hssz := hss.fr (show Fr [] [73, 75, 76, 77, 78, 79, 80, 81, 82] [] σ σ25 from ((Fr.rfl.trans (Fr.sub F4 (by decide) (by decide) (by decide))).trans (Fr.sub F18 (by decide) (by decide) (by decide)))) (by decide)
          have hscz := hsc.fr (show Fr [] [73, 75, 76, 77, 78, 79, 80, 81, 82] [] σ σ25 from ((Fr.rfl.trans (Fr.sub F4 (by decide) (by decide) (by decide))).trans (Fr.sub F18 (by decide) (by decide) (by decide)))) (by decide)
          refine tm_callV (M := m_X12_beside) (pc := 239) (ix := 599) (M' := m_X12_areAlike) (As := []) (rest := []) dX12_beside_239 ok_X12_areAlike im_X12_areAlike se_X12_areAlike ml12_599 np_X12_areAlike rfl rfl (Nat.le_of_ble_eq_true rfl) (Nat.le_of_ble_eq_true rfl) rfl (c_X12_areAlike (d) (σ := σ25)  R19 (hit.fr (show Fr [83, 84] [46, 47, 48, 49, 50, 51, 52, 53, 54, 55, 56, 57, 58, 73, 74, 75, 76, 77, 78, 79, 80, 81, 82, 86] [] σ0 σ25 from (((Fr.rfl.trans (Fr.sub hF (by decide) (by decide) (by decide))).trans (Fr.sub F4 (by decide) (by decide) (by decide))).trans (Fr.sub F18 (by decide) (by decide) (by decide)))) (by decide)) (hpar.fr (show Fr [83, 84] [46, 47, 48, 49, 50, 51, 52, 53, 54, 55, 56, 57, 58, 73, 74, 75, 76, 77, 78, 79, 80, 81, 82, 86] [] σ0 σ25 from (((Fr.rfl.trans (Fr.sub hF (by decide) (by decide) (by decide))).trans (Fr.sub F4 (by decide) (by decide) (by decide))).trans (Fr.sub F18 (by decide) (by decide) (by decide)))) (by decide)) (hnam.fr (show Fr [83, 84] [46, 47, 48, 49, 50, 51, 52, 53, 54, 55, 56, 57, 58, 73, 74, 75, 76, 77, 78, 79, 80, 81, 82, 86] [] σ0 σ25 from (((Fr.rfl.trans (Fr.sub hF (by decide) (by decide) (by decide))).trans (Fr.sub F4 (by decide) (by decide) (by decide))).trans (Fr.sub F18 (by decide) (by decide) (by decide)))) (by decide)) (hgd.fr (show Fr [83, 84] [46, 47, 48, 49, 50, 51, 52, 53, 54, 55, 56, 57, 58, 73, 74, 75, 76, 77, 78, 79, 80, 81, 82, 86] [] σ0 σ25 from (((Fr.rfl.trans (Fr.sub hF (by decide) (by decide) (by decide))).trans (Fr.sub F4 (by decide) (by decide) (by decide))).trans (Fr.sub F18 (by decide) (by decide) (by decide)))) (by decide) (by decide)) hlz hboz hbhz hssz hscz hr1z (hb1_ (by omega)) (hpl.1.fr (show Fr [83, 84] [46, 47, 48, 49, 50, 51, 52, 53, 54, 55, 56, 57, 58, 73, 74, 75, 76, 77, 78, 79, 80, 81, 82, 86] [] σ0 σ25 from (((Fr.rfl.trans (Fr.sub hF (by decide) (by decide) (by decide))).trans (Fr.sub F4 (by decide) (by decide) (by decide))).trans (Fr.sub F18 (by decide) (by decide) (by decide)))) (by decide) (by decide)) (by rw [h86z]; omega)) (fun r28 σ29 hp => ?_)
          obtain ⟨v30, rfl, f31, f32, f33, f34, f35, f36, f37, f38, f39⟩ := hp
          show Tm _ _ 242 b σ29 [(10, .int (iI s1024)), (9, .int (iI s911)), (8, .int (iI lf12)), (7, .int (iI cnt)), (0, .ref b)] [.int (iI v30)] _
          have hz3 := f34
          have hz4 := f35
          have hz5 := f36
          have hz6 := f37
          have hz7 := f38
          have hz8 := f39
          have hxz := hxb.trans (X0.of f32 (by decide))
          have h761 : σ29.2.1 76 1 = σ13.2.1 76 1 := (congrFun (f32.2.1 76 (by decide)) 1).trans (hb2_.1 1 (by decide)).2
          have h762 : σ29.2.1 76 2 = σ25.2.1 76 2 := congrFun (f32.2.1 76 (by decide)) 2
          have h762b : σ13.2.1 76 2 = σ.2.1 76 2 := (ha2.1 2 (by decide)).2
          rw [h86z] at hz8
          refine tm_if_ne (tgt := 251) dX12_beside_242 (by decide) ⟨by omega, by omega⟩ (fun h40 => ?_) (fun h40 => ?_)
          · refine tm_iinc (q0 := 3) (L' := [(7, .int (iI (cnt + 1))), (10, .int (iI s1024)), (9, .int (iI s911)), (8, .int (iI lf12)), (0, .ref b)]) dX12_beside_251 rfl (by decide) rfl ?_
            refine tm_goto (tgt := 84) dX12_beside_254 (by decide) ?_
            exact tm_sub [3, 0, 4] rfl (ih _ (by have := ha4.2 (by omega); omega) (cnt + 1) (lf12) σ29 ((((Fr.rfl.trans (Fr.sub hF (by decide) (by decide) (by decide))).trans (Fr.sub F4 (by decide) (by decide) (by decide))).trans (Fr.sub F18 (by decide) (by decide) (by decide))).trans (Fr.sub f32 (by decide) (by decide) (by decide))) f33 (by omega) hz3 hz4 hz5 hz6 hz7 (hr1z.fr f32 (by decide) (by decide)) ((hb1_ (by omega)).fr f32 (by decide) (by decide)) hxz (by rw [h761]; omega) (by rw [h762]; omega) (by omega) rfl)
          · refine tm_bipush dX12_beside_245 (by decide) ?_
            refine tm_iload dX12_beside_247 3 rfl ?_
            refine tm_isub dX12_beside_249 ?_
            exact tm_iret rfl dX12_beside_250 (hret _ _ ((((Fr.rfl.trans (Fr.sub hF (by decide) (by decide) (by decide))).trans (Fr.sub F4 (by decide) (by decide) (by decide))).trans (Fr.sub F18 (by decide) (by decide) (by decide))).trans (Fr.sub f32 (by decide) (by decide) (by decide))) f33 hz3 hz4 hz5 hz6 hz7 hxz)
        · refine tm_aload_n dX12_beside_168 rfl 4 rfl ?_
          refine tm_callV (M := m_X12_beside) (pc := 169) (ix := 593) (M' := m_X12_arePrintsAlike) (As := []) (rest := []) dX12_beside_169 ok_X12_arePrintsAlike im_X12_arePrintsAlike se_X12_arePrintsAlike ml12_593 np_X12_arePrintsAlike rfl rfl (Nat.le_of_ble_eq_true rfl) (Nat.le_of_ble_eq_true rfl) rfl (c_X12_arePrintsAlike (d + 7) (σ := σ25)  R19) (fun r41 σ42 hp => ?_)
          obtain ⟨v43, rfl, rfl, f44⟩ := hp
          show Tm _ _ 172 b σ25 [(10, .int (iI s1024)), (9, .int (iI s911)), (8, .int (iI lf12)), (7, .int (iI cnt)), (0, .ref b)] [.int (iI v43)] _
          refine tm_if_eq (tgt := 200) dX12_beside_172 (by decide) ⟨by omega, by omega⟩ (fun h45 => ?_) (fun h45 => ?_)
          · refine tm_iconst dX12_beside_200 ?_
            refine tm_istore (L' := [(11, .int (iI 0)), (10, .int (iI s1024)), (9, .int (iI s911)), (8, .int (iI lf12)), (7, .int (iI cnt)), (0, .ref b)]) dX12_beside_201 (by decide) rfl ?_
            refine tm_aload_n dX12_beside_203 rfl 5 rfl ?_
            refine tm_get (k := 86) (v := .ref (b + 1 + 54)) lay_12 dX12_beside_204 (by decide) fl12_182 rfl ?_
            refine tm_iconst dX12_beside_207 ?_
            refine tm_iload dX12_beside_208 0 rfl ?_
            refine tm_if_eq (tgt := 220) dX12_beside_210 (by decide) ⟨by decide, by decide⟩ (fun _ => ?_) (fun h => absurd h (by decide))
            refine tm_iconst dX12_beside_220 ?_
            refine tm_iast (z := 2) (v := 0) dX12_beside_221 (show mT[54]? = some (86, 0, 3) from rfl) (by omega) (by omega) (by decide) ?_
            refine tm_iload dX12_beside_222 0 rfl ?_
            refine tm_if_eq (tgt := 232) dX12_beside_224 (by decide) ⟨by decide, by decide⟩ (fun _ => ?_) (fun h => absurd h (by decide))
            refine tm_bipush dX12_beside_232 (by decide) ?_
            refine tm_iload dX12_beside_234 4 rfl ?_
            refine tm_isub dX12_beside_236 ?_
            exact tm_iret rfl dX12_beside_237 (hret _ _ ((((Fr.rfl.trans (Fr.sub hF (by decide) (by decide) (by decide))).trans (Fr.sub F4 (by decide) (by decide) (by decide))).trans (Fr.sub F18 (by decide) (by decide) (by decide))).A (by decide)) (R19.A (by omega)) (hl.fr (show Fr [] [73, 75, 76, 77, 78, 79, 80, 81, 82, 86] [] σ (sA 86 (2) (0) σ25) from (((Fr.rfl.trans (Fr.sub F4 (by decide) (by decide) (by decide))).trans (Fr.sub F18 (by decide) (by decide) (by decide))).A (by decide))) (by decide)) (hbo.fr (show Fr [] [73, 75, 76, 77, 78, 79, 80, 81, 82, 86] [] σ (sA 86 (2) (0) σ25) from (((Fr.rfl.trans (Fr.sub F4 (by decide) (by decide) (by decide))).trans (Fr.sub F18 (by decide) (by decide) (by decide))).A (by decide))) (by decide)) (hbh.fr (show Fr [] [73, 75, 76, 77, 78, 79, 80, 81, 82, 86] [] σ (sA 86 (2) (0) σ25) from (((Fr.rfl.trans (Fr.sub F4 (by decide) (by decide) (by decide))).trans (Fr.sub F18 (by decide) (by decide) (by decide))).A (by decide))) (by decide)) (hss.fr (show Fr [] [73, 75, 76, 77, 78, 79, 80, 81, 82, 86] [] σ (sA 86 (2) (0) σ25) from (((Fr.rfl.trans (Fr.sub F4 (by decide) (by decide) (by decide))).trans (Fr.sub F18 (by decide) (by decide) (by decide))).A (by decide))) (by decide)) (hsc.fr (show Fr [] [73, 75, 76, 77, 78, 79, 80, 81, 82, 86] [] σ (sA 86 (2) (0) σ25) from (((Fr.rfl.trans (Fr.sub F4 (by decide) (by decide) (by decide))).trans (Fr.sub F18 (by decide) (by decide) (by decide))).A (by decide))) (by decide)) (hxb.trans (X0.of (show Fr [] [86] [] σ25 (sA 86 (2) (0) σ25) from (Fr.rfl.A (by decide))) (by decide))))
          · refine tm_iload dX12_beside_175 1 rfl ?_
            refine tm_iconst dX12_beside_177 ?_
            refine tm_icmp_eq (tgt := 196) dX12_beside_178 (by decide) ⟨by omega, by omega⟩ ⟨by decide, by decide⟩ (fun h48 => ?_) (fun h48 => ?_)
            · refine tm_iconst dX12_beside_196 ?_
              refine tm_goto (tgt := 201) dX12_beside_197 (by decide) ?_
              refine tm_istore (L' := [(11, .int (iI 1)), (10, .int (iI s1024)), (9, .int (iI s911)), (8, .int (iI lf12)), (7, .int (iI cnt)), (0, .ref b)]) dX12_beside_201 (by decide) rfl ?_
              refine tm_aload_n dX12_beside_203 rfl 5 rfl ?_
              refine tm_get (k := 86) (v := .ref (b + 1 + 54)) lay_12 dX12_beside_204 (by decide) fl12_182 rfl ?_
              refine tm_iconst dX12_beside_207 ?_
              refine tm_iload dX12_beside_208 0 rfl ?_
              refine tm_if_eq (tgt := 220) dX12_beside_210 (by decide) ⟨by decide, by decide⟩ (fun h => absurd h (by decide)) (fun _ => ?_)
              refine tm_iload dX12_beside_213 2 rfl ?_
              refine tm_iconst dX12_beside_215 ?_
              refine tm_isub dX12_beside_216 ?_
              refine tm_goto (tgt := 221) dX12_beside_217 (by decide) ?_
              refine tm_iast (z := 2) (v := s911 - 1) dX12_beside_221 (show mT[54]? = some (86, 0, 3) from rfl) (by omega) (by omega) (by decide) ?_
              refine tm_iload dX12_beside_222 0 rfl ?_
              refine tm_if_eq (tgt := 232) dX12_beside_224 (by decide) ⟨by decide, by decide⟩ (fun h => absurd h (by decide)) (fun _ => ?_)
              refine tm_iload dX12_beside_227 4 rfl ?_
              refine tm_goto (tgt := 237) dX12_beside_229 (by decide) ?_
              exact tm_iret rfl dX12_beside_237 (hret _ _ ((((Fr.rfl.trans (Fr.sub hF (by decide) (by decide) (by decide))).trans (Fr.sub F4 (by decide) (by decide) (by decide))).trans (Fr.sub F18 (by decide) (by decide) (by decide))).A (by decide)) (R19.A (by omega)) (hl.fr (show Fr [] [73, 75, 76, 77, 78, 79, 80, 81, 82, 86] [] σ (sA 86 (2) (s911 - 1) σ25) from (((Fr.rfl.trans (Fr.sub F4 (by decide) (by decide) (by decide))).trans (Fr.sub F18 (by decide) (by decide) (by decide))).A (by decide))) (by decide)) (hbo.fr (show Fr [] [73, 75, 76, 77, 78, 79, 80, 81, 82, 86] [] σ (sA 86 (2) (s911 - 1) σ25) from (((Fr.rfl.trans (Fr.sub F4 (by decide) (by decide) (by decide))).trans (Fr.sub F18 (by decide) (by decide) (by decide))).A (by decide))) (by decide)) (hbh.fr (show Fr [] [73, 75, 76, 77, 78, 79, 80, 81, 82, 86] [] σ (sA 86 (2) (s911 - 1) σ25) from (((Fr.rfl.trans (Fr.sub F4 (by decide) (by decide) (by decide))).trans (Fr.sub F18 (by decide) (by decide) (by decide))).A (by decide))) (by decide)) (hss.fr (show Fr [] [73, 75, 76, 77, 78, 79, 80, 81, 82, 86] [] σ (sA 86 (2) (s911 - 1) σ25) from (((Fr.rfl.trans (Fr.sub F4 (by decide) (by decide) (by decide))).trans (Fr.sub F18 (by decide) (by decide) (by decide))).A (by decide))) (by decide)) (hsc.fr (show Fr [] [73, 75, 76, 77, 78, 79, 80, 81, 82, 86] [] σ (sA 86 (2) (s911 - 1) σ25) from (((Fr.rfl.trans (Fr.sub F4 (by decide) (by decide) (by decide))).trans (Fr.sub F18 (by decide) (by decide) (by decide))).A (by decide))) (by decide)) (hxb.trans (X0.of (show Fr [] [86] [] σ25 (sA 86 (2) (s911 - 1) σ25) from (Fr.rfl.A (by decide))) (by decide))))
            · refine tm_aload_n dX12_beside_181 rfl 4 rfl ?_
              refine tm_get (k := 75) (v := .ref (b + 1 + 46)) lay_12 dX12_beside_182 (by decide) fl12_158 rfl ?_
              refine tm_iconst dX12_beside_185 ?_
              refine tm_iald (z := 1) (v := σ25.2.1 75 1) dX12_beside_186 (show mT[46]? = some (75, 0, 3) from rfl) (by omega) (by omega) (by decide) (rfl) ?_
              have g51 := RG.a R19 75 (1)
              refine tm_aload_n dX12_beside_187 rfl 4 rfl ?_
              refine tm_get (k := 75) (v := .ref (b + 1 + 46)) lay_12 dX12_beside_188 (by decide) fl12_158 rfl ?_
              refine tm_iconst dX12_beside_191 ?_
              refine tm_iald (z := 2) (v := σ25.2.1 75 2) dX12_beside_192 (show mT[46]? = some (75, 0, 3) from rfl) (by omega) (by omega) (by decide) (rfl) ?_
              have g52 := RG.a R19 75 (2)
              refine tm_icmp_ne (tgt := 200) dX12_beside_193 (by decide) ⟨by omega, by omega⟩ ⟨by omega, by omega⟩ (fun h53 => ?_) (fun h53 => ?_)
              · refine tm_iconst dX12_beside_200 ?_
                refine tm_istore (L' := [(11, .int (iI 0)), (10, .int (iI s1024)), (9, .int (iI s911)), (8, .int (iI lf12)), (7, .int (iI cnt)), (0, .ref b)]) dX12_beside_201 (by decide) rfl ?_
                refine tm_aload_n dX12_beside_203 rfl 5 rfl ?_
                refine tm_get (k := 86) (v := .ref (b + 1 + 54)) lay_12 dX12_beside_204 (by decide) fl12_182 rfl ?_
                refine tm_iconst dX12_beside_207 ?_
                refine tm_iload dX12_beside_208 0 rfl ?_
                refine tm_if_eq (tgt := 220) dX12_beside_210 (by decide) ⟨by decide, by decide⟩ (fun _ => ?_) (fun h => absurd h (by decide))
                refine tm_iconst dX12_beside_220 ?_
                refine tm_iast (z := 2) (v := 0) dX12_beside_221 (show mT[54]? = some (86, 0, 3) from rfl) (by omega) (by omega) (by decide) ?_
                refine tm_iload dX12_beside_222 0 rfl ?_
                refine tm_if_eq (tgt := 232) dX12_beside_224 (by decide) ⟨by decide, by decide⟩ (fun _ => ?_) (fun h => absurd h (by decide))
                refine tm_bipush dX12_beside_232 (by decide) ?_
                refine tm_iload dX12_beside_234 4 rfl ?_
                refine tm_isub dX12_beside_236 ?_
                exact tm_iret rfl dX12_beside_237 (hret _ _ ((((Fr.rfl.trans (Fr.sub hF (by decide) (by decide) (by decide))).trans (Fr.sub F4 (by decide) (by decide) (by decide))).trans (Fr.sub F18 (by decide) (by decide) (by decide))).A (by decide)) (R19.A (by omega)) (hl.fr (show Fr [] [73, 75, 76, 77, 78, 79, 80, 81, 82, 86] [] σ (sA 86 (2) (0) σ25) from (((Fr.rfl.trans (Fr.sub F4 (by decide) (by decide) (by decide))).trans (Fr.sub F18 (by decide) (by decide) (by decide))).A (by decide))) (by decide)) (hbo.fr (show Fr [] [73, 75, 76, 77, 78, 79, 80, 81, 82, 86] [] σ (sA 86 (2) (0) σ25) from (((Fr.rfl.trans (Fr.sub F4 (by decide) (by decide) (by decide))).trans (Fr.sub F18 (by decide) (by decide) (by decide))).A (by decide))) (by decide)) (hbh.fr (show Fr [] [73, 75, 76, 77, 78, 79, 80, 81, 82, 86] [] σ (sA 86 (2) (0) σ25) from (((Fr.rfl.trans (Fr.sub F4 (by decide) (by decide) (by decide))).trans (Fr.sub F18 (by decide) (by decide) (by decide))).A (by decide))) (by decide)) (hss.fr (show Fr [] [73, 75, 76, 77, 78, 79, 80, 81, 82, 86] [] σ (sA 86 (2) (0) σ25) from (((Fr.rfl.trans (Fr.sub F4 (by decide) (by decide) (by decide))).trans (Fr.sub F18 (by decide) (by decide) (by decide))).A (by decide))) (by decide)) (hsc.fr (show Fr [] [73, 75, 76, 77, 78, 79, 80, 81, 82, 86] [] σ (sA 86 (2) (0) σ25) from (((Fr.rfl.trans (Fr.sub F4 (by decide) (by decide) (by decide))).trans (Fr.sub F18 (by decide) (by decide) (by decide))).A (by decide))) (by decide)) (hxb.trans (X0.of (show Fr [] [86] [] σ25 (sA 86 (2) (0) σ25) from (Fr.rfl.A (by decide))) (by decide))))
              · refine tm_iconst dX12_beside_196 ?_
                refine tm_goto (tgt := 201) dX12_beside_197 (by decide) ?_
                refine tm_istore (L' := [(11, .int (iI 1)), (10, .int (iI s1024)), (9, .int (iI s911)), (8, .int (iI lf12)), (7, .int (iI cnt)), (0, .ref b)]) dX12_beside_201 (by decide) rfl ?_
                refine tm_aload_n dX12_beside_203 rfl 5 rfl ?_
                refine tm_get (k := 86) (v := .ref (b + 1 + 54)) lay_12 dX12_beside_204 (by decide) fl12_182 rfl ?_
                refine tm_iconst dX12_beside_207 ?_
                refine tm_iload dX12_beside_208 0 rfl ?_
                refine tm_if_eq (tgt := 220) dX12_beside_210 (by decide) ⟨by decide, by decide⟩ (fun h => absurd h (by decide)) (fun _ => ?_)
                refine tm_iload dX12_beside_213 2 rfl ?_
                refine tm_iconst dX12_beside_215 ?_
                refine tm_isub dX12_beside_216 ?_
                refine tm_goto (tgt := 221) dX12_beside_217 (by decide) ?_
                refine tm_iast (z := 2) (v := s911 - 1) dX12_beside_221 (show mT[54]? = some (86, 0, 3) from rfl) (by omega) (by omega) (by decide) ?_
                refine tm_iload dX12_beside_222 0 rfl ?_
                refine tm_if_eq (tgt := 232) dX12_beside_224 (by decide) ⟨by decide, by decide⟩ (fun h => absurd h (by decide)) (fun _ => ?_)
                refine tm_iload dX12_beside_227 4 rfl ?_
                refine tm_goto (tgt := 237) dX12_beside_229 (by decide) ?_
                exact tm_iret rfl dX12_beside_237 (hret _ _ ((((Fr.rfl.trans (Fr.sub hF (by decide) (by decide) (by decide))).trans (Fr.sub F4 (by decide) (by decide) (by decide))).trans (Fr.sub F18 (by decide) (by decide) (by decide))).A (by decide)) (R19.A (by omega)) (hl.fr (show Fr [] [73, 75, 76, 77, 78, 79, 80, 81, 82, 86] [] σ (sA 86 (2) (s911 - 1) σ25) from (((Fr.rfl.trans (Fr.sub F4 (by decide) (by decide) (by decide))).trans (Fr.sub F18 (by decide) (by decide) (by decide))).A (by decide))) (by decide)) (hbo.fr (show Fr [] [73, 75, 76, 77, 78, 79, 80, 81, 82, 86] [] σ (sA 86 (2) (s911 - 1) σ25) from (((Fr.rfl.trans (Fr.sub F4 (by decide) (by decide) (by decide))).trans (Fr.sub F18 (by decide) (by decide) (by decide))).A (by decide))) (by decide)) (hbh.fr (show Fr [] [73, 75, 76, 77, 78, 79, 80, 81, 82, 86] [] σ (sA 86 (2) (s911 - 1) σ25) from (((Fr.rfl.trans (Fr.sub F4 (by decide) (by decide) (by decide))).trans (Fr.sub F18 (by decide) (by decide) (by decide))).A (by decide))) (by decide)) (hss.fr (show Fr [] [73, 75, 76, 77, 78, 79, 80, 81, 82, 86] [] σ (sA 86 (2) (s911 - 1) σ25) from (((Fr.rfl.trans (Fr.sub F4 (by decide) (by decide) (by decide))).trans (Fr.sub F18 (by decide) (by decide) (by decide))).A (by decide))) (by decide)) (hsc.fr (show Fr [] [73, 75, 76, 77, 78, 79, 80, 81, 82, 86] [] σ (sA 86 (2) (s911 - 1) σ25) from (((Fr.rfl.trans (Fr.sub F4 (by decide) (by decide) (by decide))).trans (Fr.sub F18 (by decide) (by decide) (by decide))).A (by decide))) (by decide)) (hxb.trans (X0.of (show Fr [] [86] [] σ25 (sA 86 (2) (s911 - 1) σ25) from (Fr.rfl.A (by decide))) (by decide))))
      · refine tm_bipush dX12_beside_156 (by decide) ?_
        refine tm_iload dX12_beside_158 3 rfl ?_
        refine tm_isub dX12_beside_160 ?_
        exact tm_iret rfl dX12_beside_161 (hret _ _ (((Fr.rfl.trans (Fr.sub hF (by decide) (by decide) (by decide))).trans (Fr.sub F4 (by decide) (by decide) (by decide))).trans (Fr.sub F18 (by decide) (by decide) (by decide))) R19 (hl.fr (show Fr [] [73, 75, 76, 77, 78, 79, 80, 81, 82] [] σ σ25 from ((Fr.rfl.trans (Fr.sub F4 (by decide) (by decide) (by decide))).trans (Fr.sub F18 (by decide) (by decide) (by decide)))) (by decide)) (hbo.fr (show Fr [] [73, 75, 76, 77, 78, 79, 80, 81, 82] [] σ σ25 from ((Fr.rfl.trans (Fr.sub F4 (by decide) (by decide) (by decide))).trans (Fr.sub F18 (by decide) (by decide) (by decide)))) (by decide)) (hbh.fr (show Fr [] [73, 75, 76, 77, 78, 79, 80, 81, 82] [] σ σ25 from ((Fr.rfl.trans (Fr.sub F4 (by decide) (by decide) (by decide))).trans (Fr.sub F18 (by decide) (by decide) (by decide)))) (by decide)) (hss.fr (show Fr [] [73, 75, 76, 77, 78, 79, 80, 81, 82] [] σ σ25 from ((Fr.rfl.trans (Fr.sub F4 (by decide) (by decide) (by decide))).trans (Fr.sub F18 (by decide) (by decide) (by decide)))) (by decide)) (hsc.fr (show Fr [] [73, 75, 76, 77, 78, 79, 80, 81, 82] [] σ σ25 from ((Fr.rfl.trans (Fr.sub F4 (by decide) (by decide) (by decide))).trans (Fr.sub F18 (by decide) (by decide) (by decide)))) (by decide)) hxb)
    · refine tm_iload dX12_beside_128 2 rfl ?_
      exact tm_iret rfl dX12_beside_130 (hret _ _ ((Fr.rfl.trans (Fr.sub hF (by decide) (by decide) (by decide))).trans (Fr.sub F4 (by decide) (by decide) (by decide))) R5 (hl.fr (show Fr [] [73, 75, 76, 77, 78, 79, 80, 81, 82] [] σ σ13 from (Fr.rfl.trans (Fr.sub F4 (by decide) (by decide) (by decide)))) (by decide)) (hbo.fr (show Fr [] [73, 75, 76, 77, 78, 79, 80, 81, 82] [] σ σ13 from (Fr.rfl.trans (Fr.sub F4 (by decide) (by decide) (by decide)))) (by decide)) (hbh.fr (show Fr [] [73, 75, 76, 77, 78, 79, 80, 81, 82] [] σ σ13 from (Fr.rfl.trans (Fr.sub F4 (by decide) (by decide) (by decide)))) (by decide)) (hss.fr (show Fr [] [73, 75, 76, 77, 78, 79, 80, 81, 82] [] σ σ13 from (Fr.rfl.trans (Fr.sub F4 (by decide) (by decide) (by decide)))) (by decide)) (hsc.fr (show Fr [] [73, 75, 76, 77, 78, 79, 80, 81, 82] [] σ σ13 from (Fr.rfl.trans (Fr.sub F4 (by decide) (by decide) (by decide)))) (by decide)) hxa)
theorem dX12_beside_0 : decode cX12_beside 0 = .ok (.aload_n 0, 1) := by decide +kernel
theorem dX12_beside_1 : decode cX12_beside 1 = .ok (.iconst 0, 1) := by decide +kernel
theorem dX12_beside_2 : decode cX12_beside 2 = .ok (.putfield 185, 3) := by decide +kernel
theorem dX12_beside_5 : decode cX12_beside 5 = .ok (.aload_n 0, 1) := by decide +kernel
theorem dX12_beside_6 : decode cX12_beside 6 = .ok (.iload_n 1, 1) := by decide +kernel
theorem dX12_beside_7 : decode cX12_beside 7 = .ok (.invokevirtual 404, 3) := by decide +kernel
theorem dX12_beside_10 : decode cX12_beside 10 = .ok (.ifCond .eq 15, 3) := by decide +kernel
theorem dX12_beside_25 : decode cX12_beside 25 = .ok (.iconst (-1), 1) := by decide +kernel
theorem dX12_beside_26 : decode cX12_beside 26 = .ok (.ireturn, 1) := by decide +kernel
theorem dX12_beside_13 : decode cX12_beside 13 = .ok (.iload 6, 2) := by decide +kernel
theorem dX12_beside_15 : decode cX12_beside 15 = .ok (.iconst 1, 1) := by decide +kernel
theorem dX12_beside_16 : decode cX12_beside 16 = .ok (.sipush 20000, 3) := by decide +kernel
theorem dX12_beside_19 : decode cX12_beside 19 = .ok (.invokestatic 188, 3) := by decide +kernel
theorem dX12_beside_22 : decode cX12_beside 22 = .ok (.ifCond .ne 5, 3) := by decide +kernel
theorem dX12_beside_27 : decode cX12_beside 27 = .ok (.aload_n 0, 1) := by decide +kernel
theorem dX12_beside_28 : decode cX12_beside 28 = .ok (.iconst 1, 1) := by decide +kernel
theorem dX12_beside_29 : decode cX12_beside 29 = .ok (.putfield 596, 3) := by decide +kernel
theorem dX12_beside_32 : decode cX12_beside 32 = .ok (.aload_n 0, 1) := by decide +kernel
theorem dX12_beside_33 : decode cX12_beside 33 = .ok (.getfield 182, 3) := by decide +kernel
theorem dX12_beside_36 : decode cX12_beside 36 = .ok (.iconst 0, 1) := by decide +kernel
theorem dX12_beside_37 : decode cX12_beside 37 = .ok (.iconst 0, 1) := by decide +kernel
theorem dX12_beside_38 : decode cX12_beside 38 = .ok (.iastore, 1) := by decide +kernel
theorem dX12_beside_39 : decode cX12_beside 39 = .ok (.aload_n 0, 1) := by decide +kernel
theorem dX12_beside_40 : decode cX12_beside 40 = .ok (.getfield 182, 3) := by decide +kernel
theorem dX12_beside_43 : decode cX12_beside 43 = .ok (.iconst 1, 1) := by decide +kernel
theorem dX12_beside_44 : decode cX12_beside 44 = .ok (.iconst 0, 1) := by decide +kernel
theorem dX12_beside_45 : decode cX12_beside 45 = .ok (.iastore, 1) := by decide +kernel
theorem dX12_beside_46 : decode cX12_beside 46 = .ok (.aload_n 0, 1) := by decide +kernel
theorem dX12_beside_47 : decode cX12_beside 47 = .ok (.getfield 182, 3) := by decide +kernel
theorem dX12_beside_50 : decode cX12_beside 50 = .ok (.iconst 2, 1) := by decide +kernel
theorem dX12_beside_51 : decode cX12_beside 51 = .ok (.iconst 0, 1) := by decide +kernel
theorem dX12_beside_52 : decode cX12_beside 52 = .ok (.iastore, 1) := by decide +kernel
theorem dX12_beside_53 : decode cX12_beside 53 = .ok (.aload_n 0, 1) := by decide +kernel
theorem dX12_beside_54 : decode cX12_beside 54 = .ok (.iconst 1, 1) := by decide +kernel
theorem dX12_beside_55 : decode cX12_beside 55 = .ok (.iload_n 1, 1) := by decide +kernel
theorem dX12_beside_56 : decode cX12_beside 56 = .ok (.iload_n 2, 1) := by decide +kernel
theorem dX12_beside_57 : decode cX12_beside 57 = .ok (.iload_n 3, 1) := by decide +kernel
theorem dX12_beside_58 : decode cX12_beside 58 = .ok (.iload 4, 2) := by decide +kernel
theorem dX12_beside_60 : decode cX12_beside 60 = .ok (.iload 5, 2) := by decide +kernel
theorem dX12_beside_62 : decode cX12_beside 62 = .ok (.invokevirtual 557, 3) := by decide +kernel
theorem dX12_beside_65 : decode cX12_beside 65 = .ok (.aload_n 0, 1) := by decide +kernel
theorem dX12_beside_66 : decode cX12_beside 66 = .ok (.iconst 2, 1) := by decide +kernel
theorem dX12_beside_67 : decode cX12_beside 67 = .ok (.iload_n 1, 1) := by decide +kernel
theorem dX12_beside_68 : decode cX12_beside 68 = .ok (.iload_n 2, 1) := by decide +kernel
theorem dX12_beside_69 : decode cX12_beside 69 = .ok (.iload_n 3, 1) := by decide +kernel
theorem dX12_beside_70 : decode cX12_beside 70 = .ok (.iload 4, 2) := by decide +kernel
theorem dX12_beside_72 : decode cX12_beside 72 = .ok (.iload 5, 2) := by decide +kernel
theorem dX12_beside_74 : decode cX12_beside 74 = .ok (.invokevirtual 557, 3) := by decide +kernel
theorem dX12_beside_77 : decode cX12_beside 77 = .ok (.iconst 0, 1) := by decide +kernel
theorem dX12_beside_78 : decode cX12_beside 78 = .ok (.istore 7, 2) := by decide +kernel
theorem dX12_beside_80 : decode cX12_beside 80 = .ok (.iload 6, 2) := by decide +kernel
theorem dX12_beside_82 : decode cX12_beside 82 = .ok (.istore 8, 2) := by decide +kernel
set_option maxHeartbeats 4000000 in
set_option maxRecDepth 20000 in
theorem c_X12_beside (d : Nat) {b : Nat} {σ : MS} {x : Int} {a1 : Int} {a2 : Int} {a3 : Int} {a4 : Int} {ln : Int} (hR : RG σ) (hit : ITM σ) (hpar : PAR σ) (hnam : NAM σ) (hgd : GDA σ) (hl : LAB σ) (hbo : BO 47 σ) (hbh : BO 48 σ) (hss : SSA σ) (hsc : SCA σ) (hpl : PLA σ) (h_x : -2147483648 ≤ x ∧ x ≤ 2147483647) (h_a1 : -2147483648 ≤ a1 ∧ a1 ≤ 2147483647) (h_a2 : -2147483648 ≤ a2 ∧ a2 ≤ 2147483647) (h_a3 : -2147483648 ≤ a3 ∧ a3 ≤ 2147483647) (h_a4 : -2147483648 ≤ a4 ∧ a4 ≤ 2147483647) (h_ln : -2147483648 ≤ ln ∧ ln ≤ 2147483647) : Tm (d + 9) m_X12_beside 0 b σ [(0, .ref b), (1, .int (iI x)), (2, .int (iI a1)), (3, .int (iI a2)), (4, .int (iI a3)), (5, .int (iI a4)), (6, .int (iI ln))] [] (fun ro σ2 => ∃ v : Int, ro = some (.int (iI v)) ∧ (Fr [0, 83, 84, 85] [46, 47, 48, 49, 50, 51, 52, 53, 54, 55, 56, 57, 58, 73, 74, 75, 76, 77, 78, 79, 80, 81, 82, 86] [] σ σ2) ∧ (RG σ2) ∧ (LAB σ2) ∧ (BO 47 σ2) ∧ (BO 48 σ2) ∧ (SSA σ2) ∧ (SCA σ2) ∧ (X0 0 σ σ2)) := by
  have e10 : (sS 0 0 σ).1 10 = σ.1 10 := rfl
  refine tm_aload_n dX12_beside_0 rfl 0 rfl ?_
  refine tm_iconst dX12_beside_1 ?_
  refine tm_putS (k := 0) (v := 0) lay_12 dX12_beside_2 (by decide) fl12_185 rfl (tyX12_ok 0 (by decide)) rfl rfl rfl ?_
  refine tm_aload_n dX12_beside_5 rfl 0 rfl ?_
  refine tm_iload_n dX12_beside_6 rfl 1 rfl ?_
  refine tm_callV (M := m_X12_beside) (pc := 7) (ix := 404) (M' := m_X12_isRoutine) (As := [.int (iI x)]) (rest := []) dX12_beside_7 ok_X12_isRoutine im_X12_isRoutine se_X12_isRoutine ml12_404 np_X12_isRoutine rfl rfl (Nat.le_of_ble_eq_true rfl) (Nat.le_of_ble_eq_true rfl) rfl (c_X12_isRoutine (d + 6) (σ := (sS 0 0 σ)) (x := x) (hR.S (by omega)) hgd.1 (by omega)) (fun r1 σ2 hp => ?_)
  obtain ⟨v3, rfl, rfl, f4, f5⟩ := hp
  show Tm _ _ 10 b (sS 0 0 σ) [(0, .ref b), (1, .int (iI x)), (2, .int (iI a1)), (3, .int (iI a2)), (4, .int (iI a3)), (5, .int (iI a4)), (6, .int (iI ln))] [.int (iI v3)] _
  refine tm_if_eq (tgt := 25) dX12_beside_10 (by decide) ⟨by omega, by omega⟩ (fun h6 => ?_) (fun h6 => ?_)
  · refine tm_iconst dX12_beside_25 ?_
    exact tm_iret rfl dX12_beside_26 (⟨_, rfl, (Fr.rfl.S (by decide)), (hR.S (by omega)), hl.fr (show Fr [0] [] [] σ (sS 0 0 σ) from (Fr.rfl.S (by decide))) (by decide), hbo.fr (show Fr [0] [] [] σ (sS 0 0 σ) from (Fr.rfl.S (by decide))) (by decide), hbh.fr (show Fr [0] [] [] σ (sS 0 0 σ) from (Fr.rfl.S (by decide))) (by decide), hss.fr (show Fr [0] [] [] σ (sS 0 0 σ) from (Fr.rfl.S (by decide))) (by decide), hsc.fr (show Fr [0] [] [] σ (sS 0 0 σ) from (Fr.rfl.S (by decide))) (by decide), X0.of (show Fr [0] [] [] σ (sS 0 0 σ) from (Fr.rfl.S (by decide))) (by decide)⟩)
  · refine tm_iload dX12_beside_13 6 rfl ?_
    refine tm_iconst dX12_beside_15 ?_
    refine tm_sipush dX12_beside_16 (by decide) ?_
    refine tm_callS (M := m_X12_beside) (pc := 19) (ix := 188) (M' := m_X12_in) (As := [.int (iI ln), .int (iI 1), .int (iI 20000)]) (rest := []) dX12_beside_19 ok_X12_in stt_X12_in ml12_188 np_X12_in rfl (Nat.le_of_ble_eq_true rfl) (Nat.le_of_ble_eq_true rfl) rfl (c_X12_in (d + 7) (σ := (sS 0 0 σ)) (x := ln) (lo := 1) (hi := 20000) (by omega) (by omega) (by omega)) (fun r7 σ8 hp => ?_)
    obtain ⟨v9, rfl, rfl, f10, f11⟩ := hp
    show Tm _ _ 22 b (sS 0 0 σ) [(0, .ref b), (1, .int (iI x)), (2, .int (iI a1)), (3, .int (iI a2)), (4, .int (iI a3)), (5, .int (iI a4)), (6, .int (iI ln))] [.int (iI v9)] _
    refine tm_if_ne (tgt := 27) dX12_beside_22 (by decide) ⟨by omega, by omega⟩ (fun h12 => ?_) (fun h12 => ?_)
    · refine tm_aload_n dX12_beside_27 rfl 0 rfl ?_
      refine tm_iconst dX12_beside_28 ?_
      refine tm_putS (k := 85) (v := 1) lay_12 dX12_beside_29 (by decide) fl12_596 rfl (tyX12_ok 85 (by decide)) rfl rfl rfl ?_
      refine tm_aload_n dX12_beside_32 rfl 0 rfl ?_
      refine tm_get (k := 86) (v := .ref (b + 1 + 54)) lay_12 dX12_beside_33 (by decide) fl12_182 rfl ?_
      refine tm_iconst dX12_beside_36 ?_
      refine tm_iconst dX12_beside_37 ?_
      refine tm_iast (z := 0) (v := 0) dX12_beside_38 (show mT[54]? = some (86, 0, 3) from rfl) (by omega) (by omega) (by decide) ?_
      refine tm_aload_n dX12_beside_39 rfl 0 rfl ?_
      refine tm_get (k := 86) (v := .ref (b + 1 + 54)) lay_12 dX12_beside_40 (by decide) fl12_182 rfl ?_
      refine tm_iconst dX12_beside_43 ?_
      refine tm_iconst dX12_beside_44 ?_
      refine tm_iast (z := 1) (v := 0) dX12_beside_45 (show mT[54]? = some (86, 0, 3) from rfl) (by omega) (by omega) (by decide) ?_
      refine tm_aload_n dX12_beside_46 rfl 0 rfl ?_
      refine tm_get (k := 86) (v := .ref (b + 1 + 54)) lay_12 dX12_beside_47 (by decide) fl12_182 rfl ?_
      refine tm_iconst dX12_beside_50 ?_
      refine tm_iconst dX12_beside_51 ?_
      refine tm_iast (z := 2) (v := 0) dX12_beside_52 (show mT[54]? = some (86, 0, 3) from rfl) (by omega) (by omega) (by decide) ?_
      have gr := hgd.2 x (by omega) (by omega)
      have h16 := hgd.1
      have hf0 := gr.2.2.2.1
      unfold FR0 at hf0
      have hpmx := hpar x (by omega) (by omega)
      have hnn : ∀ n, 0 ≤ n → n < σ.2.1 11 x → 0 ≤ σ.2.1 18 (144 * x + n) ∧ σ.2.1 18 (144 * x + n) < 192 := fun n a c => by have h := (gr.2.1.2 0 (by omega) (by have := gr.2.1.1; omega)).2 n a (by rw [hf0]; have := gr.2.2.2.2.2.2.2.2; omega); rw [Int.mul_zero, Int.add_zero] at h; exact h
      have f5 := (show Fr [0, 85] [86] [] σ (sA 86 (2) (0) (sA 86 (1) (0) (sA 86 (0) (0) (sS 85 1 (sS 0 0 σ))))) from (((((Fr.rfl.S (by decide)).S (by decide)).A (by decide)).A (by decide)).A (by decide)))
      have hx5 : X0 0 σ (sA 86 (2) (0) (sA 86 (1) (0) (sA 86 (0) (0) (sS 85 1 (sS 0 0 σ))))) := X0.of f5 (by decide)
      refine tm_aload_n dX12_beside_53 rfl 0 rfl ?_
      refine tm_iconst dX12_beside_54 ?_
      refine tm_iload_n dX12_beside_55 rfl 1 rfl ?_
      refine tm_iload_n dX12_beside_56 rfl 2 rfl ?_
      refine tm_iload_n dX12_beside_57 rfl 3 rfl ?_
      refine tm_iload dX12_beside_58 4 rfl ?_
      refine tm_iload dX12_beside_60 5 rfl ?_
      refine tm_callV (M := m_X12_beside) (pc := 62) (ix := 557) (M' := m_X12_startMachine) (As := [.int (iI 1), .int (iI x), .int (iI a1), .int (iI a2), .int (iI a3), .int (iI a4)]) (rest := []) dX12_beside_62 ok_X12_startMachine im_X12_startMachine se_X12_startMachine ml12_557 np_X12_startMachine rfl rfl (Nat.le_of_ble_eq_true rfl) (Nat.le_of_ble_eq_true rfl) rfl (c2_X12_startMachine (d + 6) (σ := (sA 86 (2) (0) (sA 86 (1) (0) (sA 86 (0) (0) (sS 85 1 (sS 0 0 σ)))))) (m := 1) (x := x) (a1 := a1) (a2 := a2) (a3 := a3) (a4 := a4) (by decide) (by omega) (((((hR.S (by omega)).S (by omega)).A (by omega)).A (by omega)).A (by omega)) (by rw [(show Fr [0, 85] [86] [] σ (sA 86 (2) (0) (sA 86 (1) (0) (sA 86 (0) (0) (sS 85 1 (sS 0 0 σ))))) from (((((Fr.rfl.S (by decide)).S (by decide)).A (by decide)).A (by decide)).A (by decide))).2.1 11 (by decide)]; exact hpmx) (by rw [(show Fr [0, 85] [86] [] σ (sA 86 (2) (0) (sA 86 (1) (0) (sA 86 (0) (0) (sS 85 1 (sS 0 0 σ))))) from (((((Fr.rfl.S (by decide)).S (by decide)).A (by decide)).A (by decide)).A (by decide))).2.1 11 (by decide), (show Fr [0, 85] [86] [] σ (sA 86 (2) (0) (sA 86 (1) (0) (sA 86 (0) (0) (sS 85 1 (sS 0 0 σ))))) from (((((Fr.rfl.S (by decide)).S (by decide)).A (by decide)).A (by decide)).A (by decide))).2.1 18 (by decide)]; exact hnn) (by omega) (by omega) (by omega) (by omega)) (fun r13 σ14 hp => ?_)
      obtain ⟨rfl, f16, f17, f18, f19, f20, f21⟩ := hp
      show Tm _ _ 65 b σ14 [(0, .ref b), (1, .int (iI x)), (2, .int (iI a1)), (3, .int (iI a2)), (4, .int (iI a3)), (5, .int (iI a4)), (6, .int (iI ln))] [] _
      have p2_ := f18
      have p3_ := f19
      have p4_ := f20
      have p5_ := f21
      have g1 := (show Fr [0, 85] [73, 74, 75, 76, 78, 79, 80, 81, 82, 86] [] σ σ14 from ((((((Fr.rfl.S (by decide)).S (by decide)).A (by decide)).A (by decide)).A (by decide)).trans (Fr.sub f16 (by decide) (by decide) (by decide))))
      have hr1a : RUN σ14 1 := RUN.new (by rw [g1.1 10 (by decide)]; omega) (((hgd.fr g1 (by decide) (by decide)).bka (by decide)).2 x (by omega) (by rw [g1.1 10 (by decide)]; omega)) p2_ p3_
      refine tm_aload_n dX12_beside_65 rfl 0 rfl ?_
      refine tm_iconst dX12_beside_66 ?_
      refine tm_iload_n dX12_beside_67 rfl 1 rfl ?_
      refine tm_iload_n dX12_beside_68 rfl 2 rfl ?_
      refine tm_iload_n dX12_beside_69 rfl 3 rfl ?_
      refine tm_iload dX12_beside_70 4 rfl ?_
      refine tm_iload dX12_beside_72 5 rfl ?_
      refine tm_callV (M := m_X12_beside) (pc := 74) (ix := 557) (M' := m_X12_startMachine) (As := [.int (iI 2), .int (iI x), .int (iI a1), .int (iI a2), .int (iI a3), .int (iI a4)]) (rest := []) dX12_beside_74 ok_X12_startMachine im_X12_startMachine se_X12_startMachine ml12_557 np_X12_startMachine rfl rfl (Nat.le_of_ble_eq_true rfl) (Nat.le_of_ble_eq_true rfl) rfl (c2_X12_startMachine (d + 6) (σ := σ14) (m := 2) (x := x) (a1 := a1) (a2 := a2) (a3 := a3) (a4 := a4) (by decide) (by omega) f17 (by rw [(show Fr [0, 85] [73, 74, 75, 76, 78, 79, 80, 81, 82, 86] [] σ σ14 from ((((((Fr.rfl.S (by decide)).S (by decide)).A (by decide)).A (by decide)).A (by decide)).trans (Fr.sub f16 (by decide) (by decide) (by decide)))).2.1 11 (by decide)]; exact hpmx) (by rw [(show Fr [0, 85] [73, 74, 75, 76, 78, 79, 80, 81, 82, 86] [] σ σ14 from ((((((Fr.rfl.S (by decide)).S (by decide)).A (by decide)).A (by decide)).A (by decide)).trans (Fr.sub f16 (by decide) (by decide) (by decide)))).2.1 11 (by decide), (show Fr [0, 85] [73, 74, 75, 76, 78, 79, 80, 81, 82, 86] [] σ σ14 from ((((((Fr.rfl.S (by decide)).S (by decide)).A (by decide)).A (by decide)).A (by decide)).trans (Fr.sub f16 (by decide) (by decide) (by decide)))).2.1 18 (by decide)]; exact hnn) (by omega) (by omega) (by omega) (by omega)) (fun r22 σ23 hp => ?_)
      obtain ⟨rfl, f25, f26, f27, f28, f29, f30⟩ := hp
      show Tm _ _ 77 b σ23 [(0, .ref b), (1, .int (iI x)), (2, .int (iI a1)), (3, .int (iI a2)), (4, .int (iI a3)), (5, .int (iI a4)), (6, .int (iI ln))] [] _
      have q2_ := f27
      have q3_ := f28
      have q4_ := f29
      have q5_ := f30
      have g2 := (show Fr [0, 85] [73, 74, 75, 76, 78, 79, 80, 81, 82, 86] [] σ σ23 from (((((((Fr.rfl.S (by decide)).S (by decide)).A (by decide)).A (by decide)).A (by decide)).trans (Fr.sub f16 (by decide) (by decide) (by decide))).trans (Fr.sub f25 (by decide) (by decide) (by decide))))
      have hr2a : RUN σ23 2 := RUN.new (by rw [g2.1 10 (by decide)]; omega) (((hpl.fr g2 (by decide) (by decide)).1).2 x (by omega) (by rw [g2.1 10 (by decide)]; omega)) q2_ q3_
      have hr1b := hr1a.x0 (q4_ 1 (by decide)) f25 (by decide) (by decide)
      have hp1a : σ23.2.1 76 1 = 0 := (q4_ 1 (by decide)).1.2.trans p5_
      have hx7 := hx5.trans ((p4_ 0 (by decide)).trans (q4_ 0 (by decide)))
      have h860 : σ23.2.1 86 0 = 0 := ra_F f25 (by decide) (ra_F f16 (by decide) (ra_ne (by omega) (ra_ne (by omega) (ra_eq))))
      have h861 : σ23.2.1 86 1 = 0 := ra_F f25 (by decide) (ra_F f16 (by decide) (ra_ne (by omega) (ra_eq)))
      refine tm_iconst dX12_beside_77 ?_
      refine tm_istore (L' := [(7, .int (iI 0)), (0, .ref b), (1, .int (iI x)), (2, .int (iI a1)), (3, .int (iI a2)), (4, .int (iI a3)), (5, .int (iI a4)), (6, .int (iI ln))]) dX12_beside_78 (by decide) rfl ?_
      refine tm_iload dX12_beside_80 7 rfl ?_
      refine tm_istore (L' := [(8, .int (iI ln)), (7, .int (iI 0)), (0, .ref b), (1, .int (iI x)), (2, .int (iI a1)), (3, .int (iI a2)), (4, .int (iI a3)), (5, .int (iI a4)), (6, .int (iI ln))]) dX12_beside_82 (by decide) rfl ?_
      refine tm_sub [0, 1, 2] rfl (l_bes0 (d) (σ0 := σ23) f26 (hit.fr g2 (by decide)) (hpar.fr g2 (by decide)) (hnam.fr g2 (by decide)) (hgd.fr g2 (by decide) (by decide)) (hpl.fr g2 (by decide) (by decide)) (fun v τ hF2 hR2 z1 z2 z3 z4 z5 hx2 => ⟨_, rfl, (Fr.sub g2 (by decide) (by decide) (by decide) : Fr [0, 83, 84, 85] [46, 47, 48, 49, 50, 51, 52, 53, 54, 55, 56, 57, 58, 73, 74, 75, 76, 77, 78, 79, 80, 81, 82, 86] [] σ σ23).trans (Fr.sub hF2 (by decide) (by decide) (by decide)), hR2, z1, z2, z3, z4, z5, hx7.trans hx2⟩) _ (0) (ln) σ23 Fr.rfl f26 (by omega) (hl.fr g2 (by decide)) (hbo.fr g2 (by decide)) (hbh.fr g2 (by decide)) (hss.fr g2 (by decide)) (hsc.fr g2 (by decide)) hr1b hr2a X0.rfl (by omega) (by omega) (by omega) rfl)
    · refine tm_iconst dX12_beside_25 ?_
      exact tm_iret rfl dX12_beside_26 (⟨_, rfl, (Fr.rfl.S (by decide)), (hR.S (by omega)), hl.fr (show Fr [0] [] [] σ (sS 0 0 σ) from (Fr.rfl.S (by decide))) (by decide), hbo.fr (show Fr [0] [] [] σ (sS 0 0 σ) from (Fr.rfl.S (by decide))) (by decide), hbh.fr (show Fr [0] [] [] σ (sS 0 0 σ) from (Fr.rfl.S (by decide))) (by decide), hss.fr (show Fr [0] [] [] σ (sS 0 0 σ) from (Fr.rfl.S (by decide))) (by decide), hsc.fr (show Fr [0] [] [] σ (sS 0 0 σ) from (Fr.rfl.S (by decide))) (by decide), X0.of (show Fr [0] [] [] σ (sS 0 0 σ) from (Fr.rfl.S (by decide))) (by decide)⟩)
end
section
def pKA (g : Nat × Nat) (bs : Nat) (U : State) : Prop := va_O "java/lang/String" g.1 (pA bs) U U.heap ∧ va_OF "java/lang/String" "coder" "B" (.int 0) g.1 (pA bs) U U.heap ∧ va_OF "java/lang/String" "value" "[B" (.ref g.2) g.1 (pA bs) U U.heap ∧ va_T .byte g.2 11 (fun j => .int (sgB.getD j 0)) (pA bs) U U.heap
theorem pKA.call {g : Nat × Nat} {bs : Nat} {s U : State} {H : Heap} {locs : List Loc} (h : pKA g bs s) (hS : va_S (pA bs) s.heap H locs) (hU : U.heap = H) (hW : s.WarmedH U.vm) : pKA g bs U := by
  have hq : ∀ a : Nat, a < s.heap.size → ¬ pA bs a → U.heap[a]? = s.heap[a]? := fun a h1 h2 => by rw [hU]; exact hS.2.1 a h1 h2
  have al := hW.alike
  exact ⟨(va_O.moved al h.1).kept hq, (va_OF.moved al h.2.1).kept hq, (va_OF.moved al h.2.2.1).kept hq, (va_T.moved al h.2.2.2).kept hq⟩
def Wq (g : Nat × Nat) (d : Nat) (M : MT) (pc : Nat) (P : PH) (sz : Nat) (L : List (Nat × Value)) (st : List Value) (o : Option Value × PH × Nat × Nat) : Prop :=
  ∀ (l : Launch) (D : va_G) (bs : Nat) (p : Program) (e : Env) (R : Room) (s : State) (m : MethodId) (args : Array Value) (below : List Frame) (meth : Method) (c : Code) (H : Heap) (locs : List Loc) (cells slots : Nat) (ls : Array Slot),
    pCx D bs d M p R s m args meth c → pKA g bs s → pW D bs P s H → H.size = sz → va_S (pA bs) s.heap H locs → lv_has ls M.2.2.1 L → cells + o.2.2.1 = R.cells + sz → slots + o.2.2.2 = R.slots →
    W p l e R s m args below meth c H locs cells slots (MQ below (pQ D bs o) args s R.cells R.slots (pA bs)) (F0 m pc ls st)
section WQR
variable {g : Nat × Nat} {d : Nat} {M : MT} {pc : Nat} {P : PH} {sz : Nat} {L : List (Nat × Value)} {st : List Value} {o : Option Value × PH × Nat × Nat} {a : Nat}
theorem wq_iconst {n : Int} {v : Int32} (hd : decode M.2.1 pc = .ok (.iconst n, 1)) (hv : Int32.ofInt n = v) (k : Wq g d M (pc + 1) P sz L (.int v :: st) o) : Wq g d M pc P sz L (st) o := by
  intro l D bs p e R s m args below meth c H locs cells slots ls C hg hW hz hS hl hc hn
  exact lv_iconst C.1 C.2.1 hd hv (k l D bs p e R s m args below meth c H locs cells slots ls C hg hW hz hS hl hc hn)
theorem wq_sipush {n : Int} {v : Int32} (hd : decode M.2.1 pc = .ok (.sipush n, 3)) (hv : (Int16.ofInt n).toInt32 = v) (k : Wq g d M (pc + 3) P sz L (.int v :: st) o) : Wq g d M pc P sz L (st) o := by
  intro l D bs p e R s m args below meth c H locs cells slots ls C hg hW hz hS hl hc hn
  exact lv_sipush C.1 C.2.1 hd hv (k l D bs p e R s m args below meth c H locs cells slots ls C hg hW hz hS hl hc hn)
theorem wq_iload_n {kf : Fin 4} {i : Nat} {x : Int32} (hd : decode M.2.1 pc = .ok (.iload_n kf, 1)) (hi : (kf : Nat) = i) (q : Nat) (hq : L[q]? = some (i, .int x)) (k : Wq g d M (pc + 1) P sz L (.int x :: st) o) : Wq g d M pc P sz L (st) o := by
  intro l D bs p e R s m args below meth c H locs cells slots ls C hg hW hz hS hl hc hn
  exact lv_iload_n C.1 C.2.1 hd hi (lv_at hl q hq) (k l D bs p e R s m args below meth c H locs cells slots ls C hg hW hz hS hl hc hn)
theorem wq_iload {i : Nat} {x : Int32} (hd : decode M.2.1 pc = .ok (.iload i, 2)) (q : Nat) (hq : L[q]? = some (i, .int x)) (k : Wq g d M (pc + 2) P sz L (.int x :: st) o) : Wq g d M pc P sz L (st) o := by
  intro l D bs p e R s m args below meth c H locs cells slots ls C hg hW hz hS hl hc hn
  exact lv_iload C.1 C.2.1 hd (lv_at hl q hq) (k l D bs p e R s m args below meth c H locs cells slots ls C hg hW hz hS hl hc hn)
theorem wq_aload_n {kf : Fin 4} {i : Nat} {x : Nat} (hd : decode M.2.1 pc = .ok (.aload_n kf, 1)) (hi : (kf : Nat) = i) (q : Nat) (hq : L[q]? = some (i, .ref x)) (k : Wq g d M (pc + 1) P sz L (.ref x :: st) o) : Wq g d M pc P sz L (st) o := by
  intro l D bs p e R s m args below meth c H locs cells slots ls C hg hW hz hS hl hc hn
  exact lv_aload_n C.1 C.2.1 hd hi (lv_at hl q hq) (k l D bs p e R s m args below meth c H locs cells slots ls C hg hW hz hS hl hc hn)
theorem wq_istore_n {kf : Fin 4} {i : Nat} {x : Int32} {L' : List (Nat × Value)} (hd : decode M.2.1 pc = .ok (.istore_n kf, 1)) (hi : (kf : Nat) = i) (hm : i < M.2.2.1) (hq : (i, Value.int x) :: L.filter (fun q => !(q.1 == i) && !(q.1 + 1 == i && q.2.category == 2)) = L') (k : Wq g d M (pc + 1) P sz L' st o) : Wq g d M pc P sz L (.int x :: st) o := by
  intro l D bs p e R s m args below meth c H locs cells slots ls C hg hW hz hS hl hc hn
  exact lv_istore_n C.1 C.2.1 hd hi hl hm hq (fun ls2 hl2 => k l D bs p e R s m args below meth c H locs cells slots ls2 C hg hW hz hS hl2 hc hn)
theorem wq_istore {i : Nat} {x : Int32} {L' : List (Nat × Value)} (hd : decode M.2.1 pc = .ok (.istore i, 2)) (hm : i < M.2.2.1) (hq : (i, Value.int x) :: L.filter (fun q => !(q.1 == i) && !(q.1 + 1 == i && q.2.category == 2)) = L') (k : Wq g d M (pc + 2) P sz L' st o) : Wq g d M pc P sz L (.int x :: st) o := by
  intro l D bs p e R s m args below meth c H locs cells slots ls C hg hW hz hS hl hc hn
  exact lv_istore C.1 C.2.1 hd hl hm hq (fun ls2 hl2 => k l D bs p e R s m args below meth c H locs cells slots ls2 C hg hW hz hS hl2 hc hn)
theorem wq_iinc {i q0 : Nat} {n : Int} {x v : Int32} {L' : List (Nat × Value)} (hd : decode M.2.1 pc = .ok (.iinc i n, 3)) (hq0 : L[q0]? = some (i, .int x)) (hv : x + Int32.ofInt n = v) (hm : i < M.2.2.1) (hq : (i, Value.int v) :: L.filter (fun q => !(q.1 == i) && !(q.1 + 1 == i && q.2.category == 2)) = L') (k : Wq g d M (pc + 3) P sz L' st o) : Wq g d M pc P sz L st o := by
  intro l D bs p e R s m args below meth c H locs cells slots ls C hg hW hz hS hl hc hn
  exact lv_iinc C.1 C.2.1 hd hl hq0 hv hm hq (fun ls2 hl2 => k l D bs p e R s m args below meth c H locs cells slots ls2 C hg hW hz hS hl2 hc hn)
theorem wq_ishr {x y : Int32} (hd : decode M.2.1 pc = .ok (.ishr, 1))  (k : Wq g d M (pc + 1) P sz L (.int (x >>> (y &&& 31)) :: st) o) : Wq g d M pc P sz L (.int y :: .int x :: st) o := by
  intro l D bs p e R s m args below meth c H locs cells slots ls C hg hW hz hS hl hc hn
  exact lv_ishr C.1 C.2.1 hd  (k l D bs p e R s m args below meth c H locs cells slots ls C hg hW hz hS hl hc hn)
theorem wq_i2b {x v : Int32} (hd : decode M.2.1 pc = .ok (.i2b, 1)) (hv : x.toInt8.toInt32 = v) (k : Wq g d M (pc + 1) P sz L (.int v :: st) o) : Wq g d M pc P sz L (.int x :: st) o := by
  intro l D bs p e R s m args below meth c H locs cells slots ls C hg hW hz hS hl hc hn
  exact lv_i2b C.1 C.2.1 hd hv (k l D bs p e R s m args below meth c H locs cells slots ls C hg hW hz hS hl hc hn)
theorem wq_if_eq {x : Int32} {off : Int} {tgt : Nat} (hd : decode M.2.1 pc = .ok (.ifCond .eq off, 3)) (ht : (pc : Int) + off = (tgt : Int)) (kt : x = 0 → Wq g d M tgt P sz L st o) (kf : ¬ x = 0 → Wq g d M (pc + 3) P sz L st o) : Wq g d M pc P sz L (.int x :: st) o := by
  intro l D bs p e R s m args below meth c H locs cells slots ls C hg hW hz hS hl hc hn
  exact lv_if_eq C.1 C.2.1 hd ht (fun h => kt h l D bs p e R s m args below meth c H locs cells slots ls C hg hW hz hS hl hc hn) (fun h => kf h l D bs p e R s m args below meth c H locs cells slots ls C hg hW hz hS hl hc hn)
theorem wq_if_ne {x : Int32} {off : Int} {tgt : Nat} (hd : decode M.2.1 pc = .ok (.ifCond .ne off, 3)) (ht : (pc : Int) + off = (tgt : Int)) (kt : ¬ x = 0 → Wq g d M tgt P sz L st o) (kf : x = 0 → Wq g d M (pc + 3) P sz L st o) : Wq g d M pc P sz L (.int x :: st) o := by
  intro l D bs p e R s m args below meth c H locs cells slots ls C hg hW hz hS hl hc hn
  exact lv_if_ne C.1 C.2.1 hd ht (fun h => kt h l D bs p e R s m args below meth c H locs cells slots ls C hg hW hz hS hl hc hn) (fun h => kf h l D bs p e R s m args below meth c H locs cells slots ls C hg hW hz hS hl hc hn)
theorem wq_if_lt {x : Int32} {off : Int} {tgt : Nat} (hd : decode M.2.1 pc = .ok (.ifCond .lt off, 3)) (ht : (pc : Int) + off = (tgt : Int)) (kt : x < 0 → Wq g d M tgt P sz L st o) (kf : ¬ x < 0 → Wq g d M (pc + 3) P sz L st o) : Wq g d M pc P sz L (.int x :: st) o := by
  intro l D bs p e R s m args below meth c H locs cells slots ls C hg hW hz hS hl hc hn
  exact lv_if_lt C.1 C.2.1 hd ht (fun h => kt h l D bs p e R s m args below meth c H locs cells slots ls C hg hW hz hS hl hc hn) (fun h => kf h l D bs p e R s m args below meth c H locs cells slots ls C hg hW hz hS hl hc hn)
theorem wq_icmp_lt {x y : Int32} {off : Int} {tgt : Nat} (hd : decode M.2.1 pc = .ok (.if_icmp .lt off, 3)) (ht : (pc : Int) + off = (tgt : Int)) (kt : x < y → Wq g d M tgt P sz L st o) (kf : ¬ x < y → Wq g d M (pc + 3) P sz L st o) : Wq g d M pc P sz L (.int y :: .int x :: st) o := by
  intro l D bs p e R s m args below meth c H locs cells slots ls C hg hW hz hS hl hc hn
  exact lv_icmp_lt C.1 C.2.1 hd ht (fun h => kt h l D bs p e R s m args below meth c H locs cells slots ls C hg hW hz hS hl hc hn) (fun h => kf h l D bs p e R s m args below meth c H locs cells slots ls C hg hW hz hS hl hc hn)
theorem wq_icmp_ge {x y : Int32} {off : Int} {tgt : Nat} (hd : decode M.2.1 pc = .ok (.if_icmp .ge off, 3)) (ht : (pc : Int) + off = (tgt : Int)) (kt : y ≤ x → Wq g d M tgt P sz L st o) (kf : ¬ y ≤ x → Wq g d M (pc + 3) P sz L st o) : Wq g d M pc P sz L (.int y :: .int x :: st) o := by
  intro l D bs p e R s m args below meth c H locs cells slots ls C hg hW hz hS hl hc hn
  exact lv_icmp_ge C.1 C.2.1 hd ht (fun h => kt h l D bs p e R s m args below meth c H locs cells slots ls C hg hW hz hS hl hc hn) (fun h => kf h l D bs p e R s m args below meth c H locs cells slots ls C hg hW hz hS hl hc hn)
theorem wq_icmp_gt {x y : Int32} {off : Int} {tgt : Nat} (hd : decode M.2.1 pc = .ok (.if_icmp .gt off, 3)) (ht : (pc : Int) + off = (tgt : Int)) (kt : y < x → Wq g d M tgt P sz L st o) (kf : ¬ y < x → Wq g d M (pc + 3) P sz L st o) : Wq g d M pc P sz L (.int y :: .int x :: st) o := by
  intro l D bs p e R s m args below meth c H locs cells slots ls C hg hW hz hS hl hc hn
  exact lv_icmp_gt C.1 C.2.1 hd ht (fun h => kt h l D bs p e R s m args below meth c H locs cells slots ls C hg hW hz hS hl hc hn) (fun h => kf h l D bs p e R s m args below meth c H locs cells slots ls C hg hW hz hS hl hc hn)
theorem wq_icmp_ne {x y : Int32} {off : Int} {tgt : Nat} (hd : decode M.2.1 pc = .ok (.if_icmp .ne off, 3)) (ht : (pc : Int) + off = (tgt : Int)) (kt : ¬ x = y → Wq g d M tgt P sz L st o) (kf : x = y → Wq g d M (pc + 3) P sz L st o) : Wq g d M pc P sz L (.int y :: .int x :: st) o := by
  intro l D bs p e R s m args below meth c H locs cells slots ls C hg hW hz hS hl hc hn
  exact lv_icmp_ne C.1 C.2.1 hd ht (fun h => kt h l D bs p e R s m args below meth c H locs cells slots ls C hg hW hz hS hl hc hn) (fun h => kf h l D bs p e R s m args below meth c H locs cells slots ls C hg hW hz hS hl hc hn)
theorem wq_goto {off : Int} {tgt : Nat} (hd : decode M.2.1 pc = .ok (.goto off, 3)) (ht : (pc : Int) + off = (tgt : Int)) (k : Wq g d M tgt P sz L st o) : Wq g d M pc P sz L st o := by
  intro l D bs p e R s m args below meth c H locs cells slots ls C hg hW hz hS hl hc hn
  exact lv_goto C.1 C.2.1 hd ht (k l D bs p e R s m args below meth c H locs cells slots ls C hg hW hz hS hl hc hn)
theorem wq_iret {v : Int32} (hr : M.2.2.2 = some .int) (hd : decode M.2.1 pc = .ok (.ireturn, 1)) : Wq g d M pc P sz L [.int v] (some (.int v), P, sz, 0) := by
  intro l D bs p e R s m args below meth c H locs cells slots ls C hg hW hz hS hl hc hn
  have e1 : cells = R.cells := by simpa using hc
  have e2 : slots = R.slots := by simpa using hn
  subst e1
  subst e2
  exact W.iret C.1 C.2.1 (C.2.2.2.1.trans hr) (fun t ht hWm => ⟨rfl, by rw [ht]; exact hz, by rw [ht]; exact hW.moved hWm.alike, hS.F ht⟩) hS.2.2 hd C.2.2.2.2.1
theorem wq_zret {v : Int32} {ty : FieldType} (hr : M.2.2.2 = some ty) (hnr : narrow ty (.int v) = .int v) (hd : decode M.2.1 pc = .ok (.ireturn, 1)) : Wq g d M pc P sz L [.int v] (some (.int v), P, sz, 0) := by
  intro l D bs p e R s m args below meth c H locs cells slots ls C hg hW hz hS hl hc hn
  have e1 : cells = R.cells := by simpa using hc
  have e2 : slots = R.slots := by simpa using hn
  subst e1
  subst e2
  exact W.zret C.1 C.2.1 (C.2.2.2.1.trans hr) hnr (fun t ht hWm => ⟨rfl, by rw [ht]; exact hz, by rw [ht]; exact hW.moved hWm.alike, hS.F ht⟩) hS.2.2 hd C.2.2.2.2.1
theorem wq_mmax {ix : Nat} {x y : Int32} (hd : decode M.2.1 pc = .ok (.invokestatic ix, 3)) (h1 : Cond.methodLink M.1.cls ix Lib.Math.max.name ∈ pWW) (h2 : Cond.static Lib.Math.max.name ∈ pWW) (h3 : Cond.initialized "java/lang/Math" ∈ pWW) (h4 : Cond.code Lib.Math.max.name Lib.Math.max.code 2 (some .int) ∈ pWW) (hd1 : 0 < d) (hcat : (st.map fun v => v.category).sum ≤ 8) (hm : sz ≤ o.2.2.1) (kk : Wq g d M (pc + 3) P sz L (.int (if x < y then y else x) :: st) o) : Wq g d M pc P sz L (.int y :: .int x :: st) o := by
  intro l D bs p e R s m args below meth c H locs cells slots ls C hg hW hz hS hl hc hn
  exact va_mmax C.1 C.2.1 (by rw [C.2.2.1]; exact hl.1.symm) (pC_own C) (pC_word C h1) (pC_word C h2) (pC_word C h3) (pC_word C h4) (by rw [(pC_R C).1]; omega) (by rw [(pC_R C).2]; omega) (by omega) (by omega) hd (kk l D bs p e R s m args below meth c H locs cells slots ls C hg hW hz hS hl hc hn)
theorem wq_mmin {ix : Nat} {x y : Int32} (hd : decode M.2.1 pc = .ok (.invokestatic ix, 3)) (h1 : Cond.methodLink M.1.cls ix Lib.Math.min.name ∈ pWW) (h2 : Cond.static Lib.Math.min.name ∈ pWW) (h3 : Cond.initialized "java/lang/Math" ∈ pWW) (h4 : Cond.code Lib.Math.min.name Lib.Math.min.code 2 (some .int) ∈ pWW) (hd1 : 0 < d) (hcat : (st.map fun v => v.category).sum ≤ 8) (hm : sz ≤ o.2.2.1) (kk : Wq g d M (pc + 3) P sz L (.int (if y < x then y else x) :: st) o) : Wq g d M pc P sz L (.int y :: .int x :: st) o := by
  intro l D bs p e R s m args below meth c H locs cells slots ls C hg hW hz hS hl hc hn
  exact va_mmin C.1 C.2.1 (by rw [C.2.2.1]; exact hl.1.symm) (pC_own C) (pC_word C h1) (pC_word C h2) (pC_word C h3) (pC_word C h4) (by rw [(pC_R C).1]; omega) (by rw [(pC_R C).2]; omega) (by omega) (by omega) hd (kk l D bs p e R s m args below meth c H locs cells slots ls C hg hW hz hS hl hc hn)
theorem wq_coder {ix : Nat} (hM : M.1.cls = "java/lang/String") (hd : decode M.2.1 pc = .ok (.getfield ix, 3)) (hw : Cond.fieldLink M.1.cls ix "java/lang/String" "coder" "B" ∈ pWW) (k : Wq g d M (pc + 3) P sz L (.int 0 :: st) o) : Wq g d M pc P sz L (.ref g.1 :: st) o := by
  intro l D bs p e R s m args below meth c H locs cells slots ls C hg hW hz hS hl hc hn
  exact vk_getf C.1 C.2.1 hg.2.1 hS (pC_own C) (pC_word C hw) (fun _ h => h) hd (k l D bs p e R s m args below meth c H locs cells slots ls C hg hW hz hS hl hc hn)
theorem wq_value {ix : Nat} (hM : M.1.cls = "java/lang/String") (hd : decode M.2.1 pc = .ok (.getfield ix, 3)) (hw : Cond.fieldLink M.1.cls ix "java/lang/String" "value" "[B" ∈ pWW) (k : Wq g d M (pc + 3) P sz L (.ref g.2 :: st) o) : Wq g d M pc P sz L (.ref g.1 :: st) o := by
  intro l D bs p e R s m args below meth c H locs cells slots ls C hg hW hz hS hl hc hn
  exact vk_getf C.1 C.2.1 hg.2.2.1 hS (pC_own C) (pC_word C hw) (fun _ h => h) hd (k l D bs p e R s m args below meth c H locs cells slots ls C hg hW hz hS hl hc hn)
theorem wq_compact {ix : Nat} (hd : decode M.2.1 pc = .ok (.getstatic ix, 3)) (hw : Cond.fieldLink M.1.cls ix "java/lang/String" "COMPACT_STRINGS" "Z" ∈ pWW) (k : Wq g d M (pc + 3) P sz L (.int 1 :: st) o) : Wq g d M pc P sz L st o := by
  intro l D bs p e R s m args below meth c H locs cells slots ls C hg hW hz hS hl hc hn
  exact va_gets C.1 C.2.1 (pC_G C).2.2.2.1 hS (pC_own C) (pC_word C hw) (fun _ h => h) hd (k l D bs p e R s m args below meth c H locs cells slots ls C hg hW hz hS hl hc hn)
theorem wq_tlen (hd : decode M.2.1 pc = .ok (.arraylength, 1)) (k : Wq g d M (pc + 1) P sz L (.int 11 :: st) o) : Wq g d M pc P sz L (.ref g.2 :: st) o := by
  intro l D bs p e R s m args below meth c H locs cells slots ls C hg hW hz hS hl hc hn
  exact va_tlen C.1 C.2.1 hg.2.2.2 hS (v := 11) rfl hd (k l D bs p e R s m args below meth c H locs cells slots ls C hg hW hz hS hl hc hn)
theorem wq_tb {i v : Int32} (hin : vp_in i 11) (hv : sgB.getD i.toNatClampNeg 0 = v) (hd : decode M.2.1 pc = .ok (.baload, 1)) (k : Wq g d M (pc + 1) P sz L (.int v :: st) o) : Wq g d M pc P sz L (.int i :: .ref g.2 :: st) o := by
  intro l D bs p e R s m args below meth c H locs cells slots ls C hg hW hz hS hl hc hn
  exact va_tb C.1 C.2.1 hg.2.2.2 hS hin (v := .int v) (by rw [← hv]) hd (k l D bs p e R s m args below meth c H locs cells slots ls C hg hW hz hS hl hc hn)
end WQR
def pPreQ (g : Nat × Nat) (D : va_G) (bs : Nat) (P : PH) (sz : Nat) : State → Prop := fun U => pPre D bs P sz U ∧ pKA g bs U
theorem pPreQ_blind {g : Nat × Nat} {D : va_G} {bs : Nat} {P : PH} {sz : Nat} {av : List Value} : FrameBlind (va_Pc av (pPreQ g D bs P sz)) := by
  intro a U f mk q
  obtain ⟨q0, qp, qA⟩ := q
  have h := pPre_blind (av := av) a U f mk ⟨q0, qp⟩
  exact ⟨q0, h.2, va_O.moved (u := U) (U := U.calling f mk a) (Vm.Alike.refl U.vm) qA.1, va_OF.moved (u := U) (U := U.calling f mk a) (Vm.Alike.refl U.vm) qA.2.1, va_OF.moved (u := U) (U := U.calling f mk a) (Vm.Alike.refl U.vm) qA.2.2.1, va_T.moved (u := U) (U := U.calling f mk a) (Vm.Alike.refl U.vm) qA.2.2.2⟩
theorem wq_met {g : Nat × Nat} {d : Nat} {M : MT} {P : PH} {sz : Nat} {av : List Value} {L : List (Nat × Value)} {o : Option Value × PH × Nat × Nat} {k : Nat} (hy : plainName M.1.cls = true) (hL : lv_args 0 av = L) (hlen : (lg_sl av).length ≤ M.2.2.1) (hk : o.2.2.1 = sz + k) (h : Wq g d M 0 P sz L [] o) (l : Launch) (D : va_G) (bs : Nat) : Met l M.1 (pWs M) (pRm d k o.2.2.2) (va_Pc av (pPreQ g D bs P sz)) (pQ D bs o) k o.2.2.2 (pA bs) := by
  refine Met.ofW (cc := M.2.1) (maxL := M.2.2.1) (ret := M.2.2.2) hy rfl ?_
  intro p e s m args below meth c s₁ B hml hv
  obtain ⟨rfl, ⟨hsz, hPw, hK, hG⟩, hA⟩ := hv
  have hts := atoms_spec (ws := pWs M) B.pre
  have hl := lv_entry av (n := M.2.2.1) hlen
  rw [lg_entry_eq]
  generalize (lg_sl av ++ List.replicate (M.2.2.1 - (lg_sl av).length) Slot.unset).toArray = ls at hl ⊢
  exact h l D bs p e (pRm d k o.2.2.2) s m av.toArray below meth c s.heap [] 0 0 ls ⟨B.exec, B.bytes, hml, B.returns, B.notSynchronized, findClass_of_methodNamed B.named, fun w hw => hts w (List.mem_cons_of_mem _ hw), hK, hG, rfl, rfl, (name_of_methodNamed B.named B.method).1⟩ hA hPw hsz va_S.rf (by rw [← hL]; exact hl) (by rw [hk]; show 0 + (sz + k) = k + sz; omega) (Nat.zero_add _)
section WQC
variable {g : Nat × Nat} {d : Nat} {M M' : MT} {pc : Nat} {P : PH} {sz : Nat} {L L1 : List (Nat × Value)} {rest As : List Value} {v : Value} {o2 : Option Value × PH × Nat × Nat}
theorem pPreSq {D : va_G} {bs : Nat} {p : Program} {R : Room} {s : State} {m : MethodId} {args : Array Value} {meth : Method} {c : Code} {H : Heap} {locs : List Loc} {av : List Value} (C : pCx D bs d M p R s m args meth c) (hg : pKA g bs s) (hW : pW D bs P s H) (hz : H.size = sz) (hS : va_S (pA bs) s.heap H locs) : PreS s H (va_Pc av (pPreQ g D bs P sz)) av :=
  ⟨pPreQ_blind, fun U hU hWm => ⟨rfl, ⟨by rw [hU]; exact hz, by rw [hU]; exact hW.moved hWm.alike, va_K.moved hWm.alike (pC_K C), (pC_G C).call hS hU hWm⟩, hg.call hS hU hWm⟩⟩
theorem pPreVq {D : va_G} {bs : Nat} {p : Program} {R : Room} {s : State} {m : MethodId} {args : Array Value} {meth : Method} {c : Code} {H : Heap} {locs : List Loc} (C : pCx D bs d M p R s m args meth c) (hg : pKA g bs s) (hW : pW D bs P s H) (hz : H.size = sz) (hS : va_S (pA bs) s.heap H locs) : PreV s H "java/lang/String" g.1 (va_Pc (.ref g.1 :: As) (pPreQ g D bs P sz)) As :=
  ⟨pPreQ_blind, by
    obtain ⟨cell, h1, h2, h3, -⟩ := hg.1.kept hS.2.1
    exact ⟨cell, h1, h2, h3⟩, fun U hU hWm => ⟨rfl, ⟨by rw [hU]; exact hz, by rw [hU]; exact hW.moved hWm.alike, va_K.moved hWm.alike (pC_K C), (pC_G C).call hS hU hWm⟩, hg.call hS hU hWm⟩⟩
theorem pcallq {D : va_G} {bs : Nat} {l : Launch} {p : Program} {e : Env} {R : Room} {s : State} {m : MethodId} {args aa : Array Value} {below : List Frame} {meth : Method} {c : Code} {H : Heap} {locs : List Loc} {cells slots : Nat} {ls : Array Slot} {st0 : List Value} (C : pCx D bs d M p R s m args meth c) (hz : H.size = sz) (hS : va_S (pA bs) s.heap H locs) (hl : lv_has ls M.2.2.1 L)
    (hr : va_Run p l e R s m args below meth c H locs cells slots 0 0 (F0 m pc ls st0) rest (pQ D bs (some v, P, sz, 0) aa) (pA bs)) (h2 : ∀ (H1 : Heap) (locs1 : List Loc), pW D bs P s H1 → H1.size = sz → va_S (pA bs) s.heap H1 locs1 → W p l e R s m args below meth c H1 locs1 cells slots (MQ below (pQ D bs o2) args s R.cells R.slots (pA bs)) (F0 m (pc + 3) ls (v :: rest))) :
    W p l e R s m args below meth c H locs cells slots (MQ below (pQ D bs o2) args s R.cells R.slots (pA bs)) (F0 m pc ls st0) := by
  intro T hT X
  obtain ⟨v', st₀, t, T', L', h0, X', hL, e1, e2, ⟨hv, hsz, hPw, hF⟩, st⟩ := hr T hT X
  cases hv
  obtain ⟨hF1, hF2⟩ := hF
  rw [h0] at hF1 hF2
  have hvm : t.vm.Alike s.vm := by rw [← e2]; exact X'.warmed.alike.symm
  obtain ⟨t2, a1, b1⟩ := h2 T'.heap (locs ++ L') (by rw [e1]; exact hPw.moved hvm) (by rw [e1]; exact hsz) ⟨Nat.le_trans hS.1 (by rw [e1]; exact hF1), fun q h1 h2 => by rw [e1, hF2 q (Nat.lt_of_lt_of_le h1 hS.1) h2]; exact hS.2.1 q h1 h2, fun q hq => by
      rcases List.mem_append.mp hq with h | h
      · exact hS.2.2 q h
      · exact hL q h⟩ T' rfl X'
  exact ⟨t2, st t2 a1, b1⟩
theorem wq_callS {ix : Nat} (hd : decode M.2.1 pc = .ok (.invokestatic ix, 3)) (hM : pOk M') (hst : Cond.static M'.1 ∈ pWW) (hlink : Cond.methodLink M.1.cls ix M'.1 ∈ pWW) (hnp : (parseMethodDescriptor M'.1.desc).map (fun d => d.parameters.length) = some As.length) (hL : lv_args 0 As = L1) (hlen : (lg_sl As).length ≤ M'.2.2.1) (hcat : (rest.map fun v => v.category).sum ≤ 8) (hm2 : sz ≤ o2.2.2.1) {st : List Value} (hst0 : st = As.reverse ++ rest) (h1 : Wq g d M' 0 P sz L1 [] (some v, P, sz, 0)) (h2 : Wq g (d + 1) M (pc + 3) P sz L (v :: rest) o2) : Wq g (d + 1) M pc P sz L st o2 := by
  intro l D bs p e R s m args below meth c H locs cells slots ls C hg hW hz hS hl hc hn
  exact pcallq (v := v) (o2 := o2) C hz hS hl (va_runS (Ts := pWW) (As := As) (rest := rest) ⟨C.1, C.2.1, C.2.2.1, pC_own C, fun w hw => pC_word C hw⟩ (wq_met (k := 0) (o := (some v, P, sz, 0)) hM.2.1 hL hlen rfl h1 l D bs) ⟨pCB C hM hlink hnp, pC_word C hst⟩ (pPreSq C hg hW hz hS) rfl rfl hl.1 hst0 (lv_room hcat) hd ⟨by omega, by omega⟩) (fun H1 locs1 w1 w2 w3 => h2 l D bs p e R s m args below meth c H1 locs1 cells slots ls C hg w1 w2 w3 hl hc hn)
theorem wq_callV {ix : Nat} (hd : decode M.2.1 pc = .ok (.invokevirtual ix, 3)) (hM : pOk M') (hcl : M'.1.cls = "java/lang/String") (hin : Cond.instanceMethod M'.1 ∈ pWW) (hse : Cond.selects "java/lang/String" M'.1 M'.1 ∈ pWW) (hlink : Cond.methodLink M.1.cls ix M'.1 ∈ pWW) (hnp : (parseMethodDescriptor M'.1.desc).map (fun d => d.parameters.length) = some As.length) (hL : lv_args 0 (.ref g.1 :: As) = L1) (hlen : (lg_sl (.ref g.1 :: As)).length ≤ M'.2.2.1) (hcat : (rest.map fun v => v.category).sum ≤ 8) (hm2 : sz ≤ o2.2.2.1) {st : List Value} (hst0 : st = As.reverse ++ .ref g.1 :: rest) (h1 : Wq g d M' 0 P sz L1 [] (some v, P, sz, 0)) (h2 : Wq g (d + 1) M (pc + 3) P sz L (v :: rest) o2) : Wq g (d + 1) M pc P sz L st o2 := by
  intro l D bs p e R s m args below meth c H locs cells slots ls C hg hW hz hS hl hc hn
  exact pcallq (v := v) (o2 := o2) C hz hS hl (va_runV (Ts := pWW) (C := "java/lang/String") (As := As) (rest := rest) ⟨C.1, C.2.1, C.2.2.1, pC_own C, fun w hw => pC_word C hw⟩ (wq_met (k := 0) (o := (some v, P, sz, 0)) hM.2.1 hL hlen rfl h1 l D bs) ⟨pCB C hM hlink hnp, pC_word C hin, pC_word C hse⟩ (pPreVq C hg hW hz hS) rfl rfl hl.1 hst0 (lv_room hcat) hd ⟨by omega, by omega⟩) (fun H1 locs1 w1 w2 w3 => h2 l D bs p e R s m args below meth c H1 locs1 cells slots ls C hg w1 w2 w3 hl hc hn)
end WQC
end
section
abbrev RXJ0 : String := "java/lang/String"
abbrev RXJ1 : String := "java/lang/StringLatin1"
abbrev cJ0_length_8abf5 : ByteArray := prog_18_method_54_code
def yJ0_length_8abf5 : MethodName := ⟨RXJ0, "length", "()I"⟩
abbrev cJ0_indexOf_0f7a4 : ByteArray := prog_18_method_79_code
def yJ0_indexOf_0f7a4 : MethodName := ⟨RXJ0, "indexOf", "(I)I"⟩
abbrev cJ0_indexOf_7cf53 : ByteArray := prog_18_method_80_code
def yJ0_indexOf_7cf53 : MethodName := ⟨RXJ0, "indexOf", "(II)I"⟩
abbrev cJ0_coder_7d493 : ByteArray := prog_18_method_152_code
def yJ0_coder_7d493 : MethodName := ⟨RXJ0, "coder", "()B"⟩
abbrev cJ0_isLatin1_aae02 : ByteArray := prog_18_method_154_code
def yJ0_isLatin1_aae02 : MethodName := ⟨RXJ0, "isLatin1", "()Z"⟩
abbrev cJ1_canEncode_9a6ad : ByteArray := prog_19_method_4_code
def yJ1_canEncode_9a6ad : MethodName := ⟨RXJ1, "canEncode", "(I)Z"⟩
abbrev cJ1_indexOf_4cfef : ByteArray := prog_19_method_22_code
def yJ1_indexOf_4cfef : MethodName := ⟨RXJ1, "indexOf", "([BIII)I"⟩
abbrev cJ1_indexOfChar_4cfef : ByteArray := prog_19_method_23_code
def yJ1_indexOfChar_4cfef : MethodName := ⟨RXJ1, "indexOfChar", "([BIII)I"⟩
theorem dJ0_length_8abf5_0 : decode cJ0_length_8abf5 0 = .ok (.aload_n 0, 1) := by decide +kernel
theorem dJ0_length_8abf5_1 : decode cJ0_length_8abf5 1 = .ok (.getfield 9, 3) := by decide +kernel
theorem dJ0_length_8abf5_4 : decode cJ0_length_8abf5 4 = .ok (.arraylength, 1) := by decide +kernel
theorem dJ0_length_8abf5_5 : decode cJ0_length_8abf5 5 = .ok (.aload_n 0, 1) := by decide +kernel
theorem dJ0_length_8abf5_6 : decode cJ0_length_8abf5 6 = .ok (.invokevirtual 335, 3) := by decide +kernel
theorem dJ0_length_8abf5_9 : decode cJ0_length_8abf5 9 = .ok (.ishr, 1) := by decide +kernel
theorem dJ0_length_8abf5_10 : decode cJ0_length_8abf5 10 = .ok (.ireturn, 1) := by decide +kernel
theorem dJ0_indexOf_0f7a4_0 : decode cJ0_indexOf_0f7a4 0 = .ok (.aload_n 0, 1) := by decide +kernel
theorem dJ0_indexOf_0f7a4_1 : decode cJ0_indexOf_0f7a4 1 = .ok (.iload_n 1, 1) := by decide +kernel
theorem dJ0_indexOf_0f7a4_2 : decode cJ0_indexOf_0f7a4 2 = .ok (.iconst 0, 1) := by decide +kernel
theorem dJ0_indexOf_0f7a4_3 : decode cJ0_indexOf_0f7a4 3 = .ok (.invokevirtual 633, 3) := by decide +kernel
theorem dJ0_indexOf_0f7a4_6 : decode cJ0_indexOf_0f7a4 6 = .ok (.ireturn, 1) := by decide +kernel
theorem dJ0_indexOf_7cf53_0 : decode cJ0_indexOf_7cf53 0 = .ok (.aload_n 0, 1) := by decide +kernel
theorem dJ0_indexOf_7cf53_1 : decode cJ0_indexOf_7cf53 1 = .ok (.invokevirtual 492, 3) := by decide +kernel
theorem dJ0_indexOf_7cf53_4 : decode cJ0_indexOf_7cf53 4 = .ok (.ifCond .eq 19, 3) := by decide +kernel
theorem dJ0_indexOf_7cf53_7 : decode cJ0_indexOf_7cf53 7 = .ok (.aload_n 0, 1) := by decide +kernel
theorem dJ0_indexOf_7cf53_8 : decode cJ0_indexOf_7cf53 8 = .ok (.getfield 9, 3) := by decide +kernel
theorem dJ0_indexOf_7cf53_11 : decode cJ0_indexOf_7cf53 11 = .ok (.iload_n 1, 1) := by decide +kernel
theorem dJ0_indexOf_7cf53_12 : decode cJ0_indexOf_7cf53 12 = .ok (.iload_n 2, 1) := by decide +kernel
theorem dJ0_indexOf_7cf53_13 : decode cJ0_indexOf_7cf53 13 = .ok (.aload_n 0, 1) := by decide +kernel
theorem dJ0_indexOf_7cf53_14 : decode cJ0_indexOf_7cf53 14 = .ok (.invokevirtual 505, 3) := by decide +kernel
theorem dJ0_indexOf_7cf53_17 : decode cJ0_indexOf_7cf53 17 = .ok (.invokestatic 637, 3) := by decide +kernel
theorem dJ0_indexOf_7cf53_20 : decode cJ0_indexOf_7cf53 20 = .ok (.goto 16, 3) := by decide +kernel
theorem dJ0_indexOf_7cf53_36 : decode cJ0_indexOf_7cf53 36 = .ok (.ireturn, 1) := by decide +kernel
theorem dJ0_coder_7d493_0 : decode cJ0_coder_7d493 0 = .ok (.getstatic 38, 3) := by decide +kernel
theorem dJ0_coder_7d493_3 : decode cJ0_coder_7d493 3 = .ok (.ifCond .eq 10, 3) := by decide +kernel
theorem dJ0_coder_7d493_6 : decode cJ0_coder_7d493 6 = .ok (.aload_n 0, 1) := by decide +kernel
theorem dJ0_coder_7d493_7 : decode cJ0_coder_7d493 7 = .ok (.getfield 15, 3) := by decide +kernel
theorem dJ0_coder_7d493_10 : decode cJ0_coder_7d493 10 = .ok (.goto 4, 3) := by decide +kernel
theorem dJ0_coder_7d493_14 : decode cJ0_coder_7d493 14 = .ok (.ireturn, 1) := by decide +kernel
theorem dJ0_isLatin1_aae02_0 : decode cJ0_isLatin1_aae02 0 = .ok (.getstatic 38, 3) := by decide +kernel
theorem dJ0_isLatin1_aae02_3 : decode cJ0_isLatin1_aae02 3 = .ok (.ifCond .eq 14, 3) := by decide +kernel
theorem dJ0_isLatin1_aae02_6 : decode cJ0_isLatin1_aae02 6 = .ok (.aload_n 0, 1) := by decide +kernel
theorem dJ0_isLatin1_aae02_7 : decode cJ0_isLatin1_aae02 7 = .ok (.getfield 15, 3) := by decide +kernel
theorem dJ0_isLatin1_aae02_10 : decode cJ0_isLatin1_aae02 10 = .ok (.ifCond .ne 7, 3) := by decide +kernel
theorem dJ0_isLatin1_aae02_13 : decode cJ0_isLatin1_aae02 13 = .ok (.iconst 1, 1) := by decide +kernel
theorem dJ0_isLatin1_aae02_14 : decode cJ0_isLatin1_aae02 14 = .ok (.goto 4, 3) := by decide +kernel
theorem dJ0_isLatin1_aae02_18 : decode cJ0_isLatin1_aae02 18 = .ok (.ireturn, 1) := by decide +kernel
theorem dJ1_canEncode_9a6ad_0 : decode cJ1_canEncode_9a6ad 0 = .ok (.iload_n 0, 1) := by decide +kernel
theorem dJ1_canEncode_9a6ad_1 : decode cJ1_canEncode_9a6ad 1 = .ok (.ifCond .lt 14, 3) := by decide +kernel
theorem dJ1_canEncode_9a6ad_4 : decode cJ1_canEncode_9a6ad 4 = .ok (.iload_n 0, 1) := by decide +kernel
theorem dJ1_canEncode_9a6ad_5 : decode cJ1_canEncode_9a6ad 5 = .ok (.sipush 255, 3) := by decide +kernel
theorem dJ1_canEncode_9a6ad_8 : decode cJ1_canEncode_9a6ad 8 = .ok (.if_icmp .gt 7, 3) := by decide +kernel
theorem dJ1_canEncode_9a6ad_11 : decode cJ1_canEncode_9a6ad 11 = .ok (.iconst 1, 1) := by decide +kernel
theorem dJ1_canEncode_9a6ad_12 : decode cJ1_canEncode_9a6ad 12 = .ok (.goto 4, 3) := by decide +kernel
theorem dJ1_canEncode_9a6ad_16 : decode cJ1_canEncode_9a6ad 16 = .ok (.ireturn, 1) := by decide +kernel
theorem dJ1_indexOf_4cfef_0 : decode cJ1_indexOf_4cfef 0 = .ok (.iload_n 1, 1) := by decide +kernel
theorem dJ1_indexOf_4cfef_1 : decode cJ1_indexOf_4cfef 1 = .ok (.invokestatic 88, 3) := by decide +kernel
theorem dJ1_indexOf_4cfef_4 : decode cJ1_indexOf_4cfef 4 = .ok (.ifCond .ne 5, 3) := by decide +kernel
theorem dJ1_indexOf_4cfef_9 : decode cJ1_indexOf_4cfef 9 = .ok (.iload_n 2, 1) := by decide +kernel
theorem dJ1_indexOf_4cfef_10 : decode cJ1_indexOf_4cfef 10 = .ok (.iconst 0, 1) := by decide +kernel
theorem dJ1_indexOf_4cfef_11 : decode cJ1_indexOf_4cfef 11 = .ok (.invokestatic 92, 3) := by decide +kernel
theorem dJ1_indexOf_4cfef_14 : decode cJ1_indexOf_4cfef 14 = .ok (.istore_n 2, 1) := by decide +kernel
theorem dJ1_indexOf_4cfef_15 : decode cJ1_indexOf_4cfef 15 = .ok (.iload_n 3, 1) := by decide +kernel
theorem dJ1_indexOf_4cfef_16 : decode cJ1_indexOf_4cfef 16 = .ok (.aload_n 0, 1) := by decide +kernel
theorem dJ1_indexOf_4cfef_17 : decode cJ1_indexOf_4cfef 17 = .ok (.arraylength, 1) := by decide +kernel
theorem dJ1_indexOf_4cfef_18 : decode cJ1_indexOf_4cfef 18 = .ok (.invokestatic 38, 3) := by decide +kernel
theorem dJ1_indexOf_4cfef_21 : decode cJ1_indexOf_4cfef 21 = .ok (.istore_n 3, 1) := by decide +kernel
theorem dJ1_indexOf_4cfef_22 : decode cJ1_indexOf_4cfef 22 = .ok (.iload_n 2, 1) := by decide +kernel
theorem dJ1_indexOf_4cfef_23 : decode cJ1_indexOf_4cfef 23 = .ok (.iload_n 3, 1) := by decide +kernel
theorem dJ1_indexOf_4cfef_24 : decode cJ1_indexOf_4cfef 24 = .ok (.if_icmp .lt 5, 3) := by decide +kernel
theorem dJ1_indexOf_4cfef_29 : decode cJ1_indexOf_4cfef 29 = .ok (.aload_n 0, 1) := by decide +kernel
theorem dJ1_indexOf_4cfef_30 : decode cJ1_indexOf_4cfef 30 = .ok (.iload_n 1, 1) := by decide +kernel
theorem dJ1_indexOf_4cfef_31 : decode cJ1_indexOf_4cfef 31 = .ok (.iload_n 2, 1) := by decide +kernel
theorem dJ1_indexOf_4cfef_32 : decode cJ1_indexOf_4cfef 32 = .ok (.iload_n 3, 1) := by decide +kernel
theorem dJ1_indexOf_4cfef_33 : decode cJ1_indexOf_4cfef 33 = .ok (.invokestatic 95, 3) := by decide +kernel
theorem dJ1_indexOf_4cfef_36 : decode cJ1_indexOf_4cfef 36 = .ok (.ireturn, 1) := by decide +kernel
theorem dJ1_indexOfChar_4cfef_0 : decode cJ1_indexOfChar_4cfef 0 = .ok (.iload_n 1, 1) := by decide +kernel
theorem dJ1_indexOfChar_4cfef_1 : decode cJ1_indexOfChar_4cfef 1 = .ok (.i2b, 1) := by decide +kernel
theorem dJ1_indexOfChar_4cfef_2 : decode cJ1_indexOfChar_4cfef 2 = .ok (.istore 4, 2) := by decide +kernel
theorem dJ1_indexOfChar_4cfef_4 : decode cJ1_indexOfChar_4cfef 4 = .ok (.iload_n 2, 1) := by decide +kernel
theorem dJ1_indexOfChar_4cfef_5 : decode cJ1_indexOfChar_4cfef 5 = .ok (.istore 5, 2) := by decide +kernel
theorem dJ1_indexOfChar_4cfef_7 : decode cJ1_indexOfChar_4cfef 7 = .ok (.iload 5, 2) := by decide +kernel
theorem dJ1_indexOfChar_4cfef_9 : decode cJ1_indexOfChar_4cfef 9 = .ok (.iload_n 3, 1) := by decide +kernel
theorem dJ1_indexOfChar_4cfef_10 : decode cJ1_indexOfChar_4cfef 10 = .ok (.if_icmp .ge 21, 3) := by decide +kernel
theorem dJ1_indexOfChar_4cfef_13 : decode cJ1_indexOfChar_4cfef 13 = .ok (.aload_n 0, 1) := by decide +kernel
theorem dJ1_indexOfChar_4cfef_14 : decode cJ1_indexOfChar_4cfef 14 = .ok (.iload 5, 2) := by decide +kernel
theorem dJ1_indexOfChar_4cfef_16 : decode cJ1_indexOfChar_4cfef 16 = .ok (.baload, 1) := by decide +kernel
theorem dJ1_indexOfChar_4cfef_17 : decode cJ1_indexOfChar_4cfef 17 = .ok (.iload 4, 2) := by decide +kernel
theorem dJ1_indexOfChar_4cfef_19 : decode cJ1_indexOfChar_4cfef 19 = .ok (.if_icmp .ne 6, 3) := by decide +kernel
theorem dJ1_indexOfChar_4cfef_22 : decode cJ1_indexOfChar_4cfef 22 = .ok (.iload 5, 2) := by decide +kernel
theorem dJ1_indexOfChar_4cfef_24 : decode cJ1_indexOfChar_4cfef 24 = .ok (.ireturn, 1) := by decide +kernel
theorem dJ1_indexOfChar_4cfef_25 : decode cJ1_indexOfChar_4cfef 25 = .ok (.iinc 5 1, 3) := by decide +kernel
theorem dJ1_indexOfChar_4cfef_28 : decode cJ1_indexOfChar_4cfef 28 = .ok (.goto (-21), 3) := by decide +kernel
theorem dJ1_indexOfChar_4cfef_31 : decode cJ1_indexOfChar_4cfef 31 = .ok (.iconst (-1), 1) := by decide +kernel
theorem dJ1_indexOfChar_4cfef_32 : decode cJ1_indexOfChar_4cfef 32 = .ok (.ireturn, 1) := by decide +kernel
theorem cd_J0_length_8abf5 : Cond.code yJ0_length_8abf5 cJ0_length_8abf5 1 (some .int) ∈ pWW := pw8 (List.mem_of_getElem? (i := 83) rfl) rfl
theorem ini_J0 : Cond.initialized RXJ0 ∈ pWW := pw1 (List.mem_of_getElem? (i := 16) rfl) rfl
abbrev m_J0_length_8abf5 : MT := (yJ0_length_8abf5, cJ0_length_8abf5, 1, (some .int))
theorem ok_J0_length_8abf5 : pOk m_J0_length_8abf5 := ⟨⟨cd_J0_length_8abf5, ini_J0⟩, by decide +kernel, ⟨by decide +kernel, by decide +kernel⟩, Nat.le_of_ble_eq_true rfl⟩
theorem np_J0_length_8abf5 : (parseMethodDescriptor yJ0_length_8abf5.desc).map (fun d => d.parameters.length) = some 0 := by decide +kernel
theorem im_J0_length_8abf5 : Cond.instanceMethod yJ0_length_8abf5 ∈ pWW := pw8 (List.mem_of_getElem? (i := 81) rfl) rfl
theorem se_J0_length_8abf5 : Cond.selects RXJ0 yJ0_length_8abf5 yJ0_length_8abf5 ∈ pWW := pw8 (List.mem_of_getElem? (i := 82) rfl) rfl
theorem cd_J0_indexOf_0f7a4 : Cond.code yJ0_indexOf_0f7a4 cJ0_indexOf_0f7a4 2 (some .int) ∈ pWW := pw8 (List.mem_of_getElem? (i := 69) rfl) rfl
abbrev m_J0_indexOf_0f7a4 : MT := (yJ0_indexOf_0f7a4, cJ0_indexOf_0f7a4, 2, (some .int))
theorem ok_J0_indexOf_0f7a4 : pOk m_J0_indexOf_0f7a4 := ⟨⟨cd_J0_indexOf_0f7a4, ini_J0⟩, by decide +kernel, ⟨by decide +kernel, by decide +kernel⟩, Nat.le_of_ble_eq_true rfl⟩
theorem np_J0_indexOf_0f7a4 : (parseMethodDescriptor yJ0_indexOf_0f7a4.desc).map (fun d => d.parameters.length) = some 1 := by decide +kernel
theorem im_J0_indexOf_0f7a4 : Cond.instanceMethod yJ0_indexOf_0f7a4 ∈ pWW := pw8 (List.mem_of_getElem? (i := 67) rfl) rfl
theorem se_J0_indexOf_0f7a4 : Cond.selects RXJ0 yJ0_indexOf_0f7a4 yJ0_indexOf_0f7a4 ∈ pWW := pw8 (List.mem_of_getElem? (i := 68) rfl) rfl
theorem cd_J0_indexOf_7cf53 : Cond.code yJ0_indexOf_7cf53 cJ0_indexOf_7cf53 3 (some .int) ∈ pWW := pw8 (List.mem_of_getElem? (i := 73) rfl) rfl
abbrev m_J0_indexOf_7cf53 : MT := (yJ0_indexOf_7cf53, cJ0_indexOf_7cf53, 3, (some .int))
theorem ok_J0_indexOf_7cf53 : pOk m_J0_indexOf_7cf53 := ⟨⟨cd_J0_indexOf_7cf53, ini_J0⟩, by decide +kernel, ⟨by decide +kernel, by decide +kernel⟩, Nat.le_of_ble_eq_true rfl⟩
theorem np_J0_indexOf_7cf53 : (parseMethodDescriptor yJ0_indexOf_7cf53.desc).map (fun d => d.parameters.length) = some 2 := by decide +kernel
theorem im_J0_indexOf_7cf53 : Cond.instanceMethod yJ0_indexOf_7cf53 ∈ pWW := pw8 (List.mem_of_getElem? (i := 71) rfl) rfl
theorem se_J0_indexOf_7cf53 : Cond.selects RXJ0 yJ0_indexOf_7cf53 yJ0_indexOf_7cf53 ∈ pWW := pw8 (List.mem_of_getElem? (i := 72) rfl) rfl
theorem cd_J0_coder_7d493 : Cond.code yJ0_coder_7d493 cJ0_coder_7d493 1 (some .byte) ∈ pWW := pw8 (List.mem_of_getElem? (i := 87) rfl) rfl
abbrev m_J0_coder_7d493 : MT := (yJ0_coder_7d493, cJ0_coder_7d493, 1, (some .byte))
theorem ok_J0_coder_7d493 : pOk m_J0_coder_7d493 := ⟨⟨cd_J0_coder_7d493, ini_J0⟩, by decide +kernel, ⟨by decide +kernel, by decide +kernel⟩, Nat.le_of_ble_eq_true rfl⟩
theorem np_J0_coder_7d493 : (parseMethodDescriptor yJ0_coder_7d493.desc).map (fun d => d.parameters.length) = some 0 := by decide +kernel
theorem im_J0_coder_7d493 : Cond.instanceMethod yJ0_coder_7d493 ∈ pWW := pw8 (List.mem_of_getElem? (i := 85) rfl) rfl
theorem se_J0_coder_7d493 : Cond.selects RXJ0 yJ0_coder_7d493 yJ0_coder_7d493 ∈ pWW := pw8 (List.mem_of_getElem? (i := 86) rfl) rfl
theorem cd_J0_isLatin1_aae02 : Cond.code yJ0_isLatin1_aae02 cJ0_isLatin1_aae02 1 (some .boolean) ∈ pWW := pw8 (List.mem_of_getElem? (i := 77) rfl) rfl
abbrev m_J0_isLatin1_aae02 : MT := (yJ0_isLatin1_aae02, cJ0_isLatin1_aae02, 1, (some .boolean))
theorem ok_J0_isLatin1_aae02 : pOk m_J0_isLatin1_aae02 := ⟨⟨cd_J0_isLatin1_aae02, ini_J0⟩, by decide +kernel, ⟨by decide +kernel, by decide +kernel⟩, Nat.le_of_ble_eq_true rfl⟩
theorem np_J0_isLatin1_aae02 : (parseMethodDescriptor yJ0_isLatin1_aae02.desc).map (fun d => d.parameters.length) = some 0 := by decide +kernel
theorem im_J0_isLatin1_aae02 : Cond.instanceMethod yJ0_isLatin1_aae02 ∈ pWW := pw8 (List.mem_of_getElem? (i := 75) rfl) rfl
theorem se_J0_isLatin1_aae02 : Cond.selects RXJ0 yJ0_isLatin1_aae02 yJ0_isLatin1_aae02 ∈ pWW := pw8 (List.mem_of_getElem? (i := 76) rfl) rfl
theorem cd_J1_canEncode_9a6ad : Cond.code yJ1_canEncode_9a6ad cJ1_canEncode_9a6ad 1 (some .boolean) ∈ pWW := pw8 (List.mem_of_getElem? (i := 93) rfl) rfl
theorem ini_J1 : Cond.initialized RXJ1 ∈ pWW := pw1 (List.mem_of_getElem? (i := 17) rfl) rfl
abbrev m_J1_canEncode_9a6ad : MT := (yJ1_canEncode_9a6ad, cJ1_canEncode_9a6ad, 1, (some .boolean))
theorem ok_J1_canEncode_9a6ad : pOk m_J1_canEncode_9a6ad := ⟨⟨cd_J1_canEncode_9a6ad, ini_J1⟩, by decide +kernel, ⟨by decide +kernel, by decide +kernel⟩, Nat.le_of_ble_eq_true rfl⟩
theorem np_J1_canEncode_9a6ad : (parseMethodDescriptor yJ1_canEncode_9a6ad.desc).map (fun d => d.parameters.length) = some 1 := by decide +kernel
theorem stt_J1_canEncode_9a6ad : Cond.static yJ1_canEncode_9a6ad ∈ pWW := pw8 (List.mem_of_getElem? (i := 92) rfl) rfl
theorem cd_J1_indexOf_4cfef : Cond.code yJ1_indexOf_4cfef cJ1_indexOf_4cfef 4 (some .int) ∈ pWW := pw8 (List.mem_of_getElem? (i := 90) rfl) rfl
abbrev m_J1_indexOf_4cfef : MT := (yJ1_indexOf_4cfef, cJ1_indexOf_4cfef, 4, (some .int))
theorem ok_J1_indexOf_4cfef : pOk m_J1_indexOf_4cfef := ⟨⟨cd_J1_indexOf_4cfef, ini_J1⟩, by decide +kernel, ⟨by decide +kernel, by decide +kernel⟩, Nat.le_of_ble_eq_true rfl⟩
theorem np_J1_indexOf_4cfef : (parseMethodDescriptor yJ1_indexOf_4cfef.desc).map (fun d => d.parameters.length) = some 4 := by decide +kernel
theorem stt_J1_indexOf_4cfef : Cond.static yJ1_indexOf_4cfef ∈ pWW := pw8 (List.mem_of_getElem? (i := 89) rfl) rfl
theorem cd_J1_indexOfChar_4cfef : Cond.code yJ1_indexOfChar_4cfef cJ1_indexOfChar_4cfef 6 (some .int) ∈ pWW := pw8 (List.mem_of_getElem? (i := 98) rfl) rfl
abbrev m_J1_indexOfChar_4cfef : MT := (yJ1_indexOfChar_4cfef, cJ1_indexOfChar_4cfef, 6, (some .int))
theorem ok_J1_indexOfChar_4cfef : pOk m_J1_indexOfChar_4cfef := ⟨⟨cd_J1_indexOfChar_4cfef, ini_J1⟩, by decide +kernel, ⟨by decide +kernel, by decide +kernel⟩, Nat.le_of_ble_eq_true rfl⟩
theorem np_J1_indexOfChar_4cfef : (parseMethodDescriptor yJ1_indexOfChar_4cfef.desc).map (fun d => d.parameters.length) = some 4 := by decide +kernel
theorem stt_J1_indexOfChar_4cfef : Cond.static yJ1_indexOfChar_4cfef ∈ pWW := pw8 (List.mem_of_getElem? (i := 97) rfl) rfl
theorem flJ0_38 : Cond.fieldLink RXJ0 38 "java/lang/String" "COMPACT_STRINGS" "Z" ∈ pWW := pw8 (List.mem_of_getElem? (i := 78) rfl) rfl
theorem flJ0_15 : Cond.fieldLink RXJ0 15 "java/lang/String" "coder" "B" ∈ pWW := pw10 (List.mem_of_getElem? (i := 93) rfl) rfl
theorem flJ0_9 : Cond.fieldLink RXJ0 9 "java/lang/String" "value" "[B" ∈ pWW := pw10 (List.mem_of_getElem? (i := 94) rfl) rfl
theorem mlJ0_335 : Cond.methodLink RXJ0 335 yJ0_coder_7d493 ∈ pWW := pw8 (List.mem_of_getElem? (i := 84) rfl) rfl
theorem mlJ0_633 : Cond.methodLink RXJ0 633 yJ0_indexOf_7cf53 ∈ pWW := pw8 (List.mem_of_getElem? (i := 70) rfl) rfl
theorem mlJ0_492 : Cond.methodLink RXJ0 492 yJ0_isLatin1_aae02 ∈ pWW := pw8 (List.mem_of_getElem? (i := 74) rfl) rfl
theorem mlJ0_505 : Cond.methodLink RXJ0 505 yJ0_length_8abf5 ∈ pWW := pw8 (List.mem_of_getElem? (i := 80) rfl) rfl
theorem mlJ0_637 : Cond.methodLink RXJ0 637 yJ1_indexOf_4cfef ∈ pWW := pw8 (List.mem_of_getElem? (i := 88) rfl) rfl
theorem mlJ1_88 : Cond.methodLink RXJ1 88 yJ1_canEncode_9a6ad ∈ pWW := pw8 (List.mem_of_getElem? (i := 91) rfl) rfl
theorem mlJ1_95 : Cond.methodLink RXJ1 95 yJ1_indexOfChar_4cfef ∈ pWW := pw8 (List.mem_of_getElem? (i := 96) rfl) rfl
theorem ml12_237 : Cond.methodLink RX12 237 yJ0_indexOf_0f7a4 ∈ pWW := pw8 (List.mem_of_getElem? (i := 66) rfl) rfl
theorem mlM_max : Cond.methodLink RXJ1 92 Lib.Math.max.name ∈ pWW := pw8 (List.mem_of_getElem? (i := 94) rfl) rfl
theorem mlM_min : Cond.methodLink RXJ1 38 Lib.Math.min.name ∈ pWW := pw8 (List.mem_of_getElem? (i := 95) rfl) rfl

theorem ix_lt : ∀ k, k < 11 → ¬ (11 : Int32) ≤ Int32.ofNat k := by decide
theorem ix_in : ∀ k, k < 11 → vp_in (Int32.ofNat k) 11 := by
  intro k hk
  have : k = 0 ∨ k = 1 ∨ k = 2 ∨ k = 3 ∨ k = 4 ∨ k = 5 ∨ k = 6 ∨ k = 7 ∨ k = 8 ∨ k = 9 ∨ k = 10 := by omega
  rcases this with h | h | h | h | h | h | h | h | h | h | h <;> subst h <;> exact vp_in_iff.mpr (by decide)
theorem ix_at : ∀ k, k < 11 → (Int32.ofNat k).toNatClampNeg = k := by decide
theorem ix_s : ∀ k, k < 11 → Int32.ofNat k + Int32.ofInt 1 = Int32.ofNat (k + 1) := by decide
section JDK
variable {g : Nat × Nat} {d : Nat} {P : PH} {sz : Nat}
theorem jq_coder : Wq g d m_J0_coder_7d493 0 P sz [(0, .ref g.1)] [] (some (.int 0), P, sz, 0) := by
  refine wq_compact dJ0_coder_7d493_0 flJ0_38 ?_
  refine wq_if_eq (tgt := 13) dJ0_coder_7d493_3 (by decide) (fun h => absurd h (by decide)) (fun _ => ?_)
  refine wq_aload_n dJ0_coder_7d493_6 (i := 0) rfl 0 rfl ?_
  refine wq_coder rfl dJ0_coder_7d493_7 flJ0_15 ?_
  refine wq_goto (tgt := 14) dJ0_coder_7d493_10 (by decide) ?_
  exact wq_zret (ty := .byte) rfl rfl dJ0_coder_7d493_14
theorem jq_latin : Wq g d m_J0_isLatin1_aae02 0 P sz [(0, .ref g.1)] [] (some (.int 1), P, sz, 0) := by
  refine wq_compact dJ0_isLatin1_aae02_0 flJ0_38 ?_
  refine wq_if_eq (tgt := 17) dJ0_isLatin1_aae02_3 (by decide) (fun h => absurd h (by decide)) (fun _ => ?_)
  refine wq_aload_n dJ0_isLatin1_aae02_6 (i := 0) rfl 0 rfl ?_
  refine wq_coder rfl dJ0_isLatin1_aae02_7 flJ0_15 ?_
  refine wq_if_ne (tgt := 17) dJ0_isLatin1_aae02_10 (by decide) (fun h => absurd rfl h) (fun _ => ?_)
  refine wq_iconst (v := 1) dJ0_isLatin1_aae02_13 rfl ?_
  refine wq_goto (tgt := 18) dJ0_isLatin1_aae02_14 (by decide) ?_
  exact wq_zret (ty := .boolean) rfl rfl dJ0_isLatin1_aae02_18
theorem jq_length : Wq g (d + 1) m_J0_length_8abf5 0 P sz [(0, .ref g.1)] [] (some (.int 11), P, sz, 0) := by
  refine wq_aload_n dJ0_length_8abf5_0 (i := 0) rfl 0 rfl ?_
  refine wq_value rfl dJ0_length_8abf5_1 flJ0_9 ?_
  refine wq_tlen dJ0_length_8abf5_4 ?_
  refine wq_aload_n dJ0_length_8abf5_5 (i := 0) rfl 0 rfl ?_
  refine wq_callV (M := m_J0_length_8abf5) (M' := m_J0_coder_7d493) (As := []) (rest := [.int 11]) (v := .int (0)) dJ0_length_8abf5_6 ok_J0_coder_7d493 rfl im_J0_coder_7d493 se_J0_coder_7d493 mlJ0_335 np_J0_coder_7d493 rfl (Nat.le_of_ble_eq_true rfl) (Nat.le_of_ble_eq_true rfl) (by exact Nat.le_refl _) (by rfl) (jq_coder) ?_
  refine wq_ishr dJ0_length_8abf5_9 ?_
  exact wq_iret rfl dJ0_length_8abf5_10
theorem jq_can {x : Int32} (h0 : ¬ x < 0) (h1 : ¬ 255 < x) : Wq g d m_J1_canEncode_9a6ad 0 P sz [(0, .int x)] [] (some (.int 1), P, sz, 0) := by
  refine wq_iload_n dJ1_canEncode_9a6ad_0 (i := 0) rfl 0 rfl ?_
  refine wq_if_lt (tgt := 15) dJ1_canEncode_9a6ad_1 (by decide) (fun h => absurd h h0) (fun _ => ?_)
  refine wq_iload_n dJ1_canEncode_9a6ad_4 (i := 0) rfl 0 rfl ?_
  refine wq_sipush (v := 255) dJ1_canEncode_9a6ad_5 rfl ?_
  refine wq_icmp_gt (tgt := 15) dJ1_canEncode_9a6ad_8 (by decide) (fun h => absurd h h1) (fun _ => ?_)
  refine wq_iconst (v := 1) dJ1_canEncode_9a6ad_11 rfl ?_
  refine wq_goto (tgt := 16) dJ1_canEncode_9a6ad_12 (by decide) ?_
  exact wq_zret (ty := .boolean) rfl rfl dJ1_canEncode_9a6ad_16
theorem jq_chl {ch x : Int32} : ∀ (n k : Nat), n + k = 11 → Wq g d m_J1_indexOfChar_4cfef 7 P sz [(5, .int (Int32.ofNat k)), (4, .int x), (0, .ref g.2), (1, .int ch), (2, .int 0), (3, .int 11)] [] (some (.int (ixF x n k)), P, sz, 0) := by
  intro n
  induction n with
  | zero =>
    intro k hk
    have e : k = 11 := by omega
    subst e
    refine wq_iload dJ1_indexOfChar_4cfef_7 0 rfl ?_
    refine wq_iload_n dJ1_indexOfChar_4cfef_9 (i := 3) rfl 5 rfl ?_
    refine wq_icmp_ge (tgt := 31) dJ1_indexOfChar_4cfef_10 (by decide) (fun _ => ?_) (fun h => absurd (by decide) h)
    refine wq_iconst (v := -1) dJ1_indexOfChar_4cfef_31 rfl ?_
    exact wq_iret rfl dJ1_indexOfChar_4cfef_32
  | succ n ih =>
    intro k hk
    have hk11 : k < 11 := by omega
    refine wq_iload dJ1_indexOfChar_4cfef_7 0 rfl ?_
    refine wq_iload_n dJ1_indexOfChar_4cfef_9 (i := 3) rfl 5 rfl ?_
    refine wq_icmp_ge (tgt := 31) dJ1_indexOfChar_4cfef_10 (by decide) (fun h => absurd h (ix_lt k hk11)) (fun _ => ?_)
    refine wq_aload_n dJ1_indexOfChar_4cfef_13 (i := 0) rfl 2 rfl ?_
    refine wq_iload dJ1_indexOfChar_4cfef_14 0 rfl ?_
    refine wq_tb (v := sgB.getD k 0) (ix_in k hk11) (by rw [ix_at k hk11]) dJ1_indexOfChar_4cfef_16 ?_
    refine wq_iload dJ1_indexOfChar_4cfef_17 1 rfl ?_
    refine wq_icmp_ne (tgt := 25) dJ1_indexOfChar_4cfef_19 (by decide) (fun h => ?_) (fun h => ?_)
    · refine wq_iinc (q0 := 0) (v := Int32.ofNat (k + 1)) dJ1_indexOfChar_4cfef_25 rfl (ix_s k hk11) (Nat.le_of_ble_eq_true rfl) rfl ?_
      refine wq_goto (tgt := 7) dJ1_indexOfChar_4cfef_28 (by decide) ?_
      have q := ih (k + 1) (by omega)
      have e : ixF x (n + 1) k = ixF x n (k + 1) := by unfold ixF; rw [if_neg h]; cases n <;> rfl
      rw [e]
      exact q
    · have e : ixF x (n + 1) k = Int32.ofNat k := by unfold ixF; exact if_pos h
      rw [e]
      refine wq_iload dJ1_indexOfChar_4cfef_22 0 rfl ?_
      exact wq_iret rfl dJ1_indexOfChar_4cfef_24
theorem jq_chr {ch : Int32} : Wq g d m_J1_indexOfChar_4cfef 0 P sz [(0, .ref g.2), (1, .int ch), (2, .int 0), (3, .int 11)] [] (some (.int (sgI ch)), P, sz, 0) := by
  refine wq_iload_n dJ1_indexOfChar_4cfef_0 (i := 1) rfl 1 rfl ?_
  refine wq_i2b (v := ch.toInt8.toInt32) dJ1_indexOfChar_4cfef_1 rfl ?_
  refine wq_istore dJ1_indexOfChar_4cfef_2 (Nat.le_of_ble_eq_true rfl) rfl ?_
  refine wq_iload_n dJ1_indexOfChar_4cfef_4 (i := 2) rfl 3 rfl ?_
  refine wq_istore dJ1_indexOfChar_4cfef_5 (Nat.le_of_ble_eq_true rfl) rfl ?_
  exact jq_chl 11 0 rfl
theorem jq_ix4 {ch : Int32} (h0 : ¬ ch < 0) (h1 : ¬ 255 < ch) : Wq g (d + 1) m_J1_indexOf_4cfef 0 P sz [(0, .ref g.2), (1, .int ch), (2, .int 0), (3, .int 11)] [] (some (.int (sgI ch)), P, sz, 0) := by
  refine wq_iload_n dJ1_indexOf_4cfef_0 (i := 1) rfl 1 rfl ?_
  refine wq_callS (M := m_J1_indexOf_4cfef) (M' := m_J1_canEncode_9a6ad) (As := [.int ch]) (rest := []) (v := .int (1)) dJ1_indexOf_4cfef_1 ok_J1_canEncode_9a6ad stt_J1_canEncode_9a6ad mlJ1_88 np_J1_canEncode_9a6ad rfl (Nat.le_of_ble_eq_true rfl) (Nat.le_of_ble_eq_true rfl) (by exact Nat.le_refl _) (by rfl) (jq_can h0 h1) ?_
  refine wq_if_ne (tgt := 9) dJ1_indexOf_4cfef_4 (by decide) (fun _ => ?_) (fun h => absurd h (by decide))
  refine wq_iload_n dJ1_indexOf_4cfef_9 (i := 2) rfl 2 rfl ?_
  refine wq_iconst (v := 0) dJ1_indexOf_4cfef_10 rfl ?_
  refine wq_mmax dJ1_indexOf_4cfef_11 mlM_max stM_max iniM cdM_max (Nat.succ_pos _) (Nat.le_of_ble_eq_true rfl) (Nat.le_refl _) ?_
  refine wq_istore_n (x := 0) dJ1_indexOf_4cfef_14 (i := 2) rfl (Nat.le_of_ble_eq_true rfl) rfl ?_
  refine wq_iload_n dJ1_indexOf_4cfef_15 (i := 3) rfl 3 rfl ?_
  refine wq_aload_n dJ1_indexOf_4cfef_16 (i := 0) rfl 1 rfl ?_
  refine wq_tlen dJ1_indexOf_4cfef_17 ?_
  refine wq_mmin dJ1_indexOf_4cfef_18 mlM_min stM_min iniM cdM_min (Nat.succ_pos _) (Nat.le_of_ble_eq_true rfl) (Nat.le_refl _) ?_
  refine wq_istore_n (x := 11) dJ1_indexOf_4cfef_21 (i := 3) rfl (Nat.le_of_ble_eq_true rfl) rfl ?_
  refine wq_iload_n dJ1_indexOf_4cfef_22 (i := 2) rfl 1 rfl ?_
  refine wq_iload_n dJ1_indexOf_4cfef_23 (i := 3) rfl 0 rfl ?_
  refine wq_icmp_lt (tgt := 29) dJ1_indexOf_4cfef_24 (by decide) (fun _ => ?_) (fun h => absurd (by decide) h)
  refine wq_aload_n dJ1_indexOf_4cfef_29 (i := 0) rfl 2 rfl ?_
  refine wq_iload_n dJ1_indexOf_4cfef_30 (i := 1) rfl 3 rfl ?_
  refine wq_iload_n dJ1_indexOf_4cfef_31 (i := 2) rfl 1 rfl ?_
  refine wq_iload_n dJ1_indexOf_4cfef_32 (i := 3) rfl 0 rfl ?_
  refine wq_callS (M := m_J1_indexOf_4cfef) (M' := m_J1_indexOfChar_4cfef) (As := [.ref g.2, .int ch, .int 0, .int 11]) (rest := []) (v := .int (sgI ch)) dJ1_indexOf_4cfef_33 ok_J1_indexOfChar_4cfef stt_J1_indexOfChar_4cfef mlJ1_95 np_J1_indexOfChar_4cfef rfl (Nat.le_of_ble_eq_true rfl) (Nat.le_of_ble_eq_true rfl) (by exact Nat.le_refl _) (by rfl) (jq_chr) ?_
  exact wq_iret rfl dJ1_indexOf_4cfef_36
theorem jq_ix2 {ch : Int32} (h0 : ¬ ch < 0) (h1 : ¬ 255 < ch) : Wq g (d + 2) m_J0_indexOf_7cf53 0 P sz [(0, .ref g.1), (1, .int ch), (2, .int 0)] [] (some (.int (sgI ch)), P, sz, 0) := by
  refine wq_aload_n dJ0_indexOf_7cf53_0 (i := 0) rfl 0 rfl ?_
  refine wq_callV (M := m_J0_indexOf_7cf53) (M' := m_J0_isLatin1_aae02) (As := []) (rest := []) (v := .int (1)) dJ0_indexOf_7cf53_1 ok_J0_isLatin1_aae02 rfl im_J0_isLatin1_aae02 se_J0_isLatin1_aae02 mlJ0_492 np_J0_isLatin1_aae02 rfl (Nat.le_of_ble_eq_true rfl) (Nat.le_of_ble_eq_true rfl) (by exact Nat.le_refl _) (by rfl) (jq_latin) ?_
  refine wq_if_eq (tgt := 23) dJ0_indexOf_7cf53_4 (by decide) (fun h => absurd h (by decide)) (fun _ => ?_)
  refine wq_aload_n dJ0_indexOf_7cf53_7 (i := 0) rfl 0 rfl ?_
  refine wq_value rfl dJ0_indexOf_7cf53_8 flJ0_9 ?_
  refine wq_iload_n dJ0_indexOf_7cf53_11 (i := 1) rfl 1 rfl ?_
  refine wq_iload_n dJ0_indexOf_7cf53_12 (i := 2) rfl 2 rfl ?_
  refine wq_aload_n dJ0_indexOf_7cf53_13 (i := 0) rfl 0 rfl ?_
  refine wq_callV (M := m_J0_indexOf_7cf53) (M' := m_J0_length_8abf5) (As := []) (rest := [.int 0, .int ch, .ref g.2]) (v := .int (11)) dJ0_indexOf_7cf53_14 ok_J0_length_8abf5 rfl im_J0_length_8abf5 se_J0_length_8abf5 mlJ0_505 np_J0_length_8abf5 rfl (Nat.le_of_ble_eq_true rfl) (Nat.le_of_ble_eq_true rfl) (by exact Nat.le_refl _) (by rfl) (jq_length) ?_
  refine wq_callS (M := m_J0_indexOf_7cf53) (M' := m_J1_indexOf_4cfef) (As := [.ref g.2, .int ch, .int 0, .int 11]) (rest := []) (v := .int (sgI ch)) dJ0_indexOf_7cf53_17 ok_J1_indexOf_4cfef stt_J1_indexOf_4cfef mlJ0_637 np_J1_indexOf_4cfef rfl (Nat.le_of_ble_eq_true rfl) (Nat.le_of_ble_eq_true rfl) (by exact Nat.le_refl _) (by rfl) (jq_ix4 h0 h1) ?_
  refine wq_goto (tgt := 36) dJ0_indexOf_7cf53_20 (by decide) ?_
  exact wq_iret rfl dJ0_indexOf_7cf53_36
theorem jq_ix1 {ch : Int32} (h0 : ¬ ch < 0) (h1 : ¬ 255 < ch) : Wq g (d + 3) m_J0_indexOf_0f7a4 0 P sz [(0, .ref g.1), (1, .int ch)] [] (some (.int (sgI ch)), P, sz, 0) := by
  refine wq_aload_n dJ0_indexOf_0f7a4_0 (i := 0) rfl 0 rfl ?_
  refine wq_iload_n dJ0_indexOf_0f7a4_1 (i := 1) rfl 1 rfl ?_
  refine wq_iconst (v := 0) dJ0_indexOf_0f7a4_2 rfl ?_
  refine wq_callV (M := m_J0_indexOf_0f7a4) (M' := m_J0_indexOf_7cf53) (As := [.int ch, .int 0]) (rest := []) (v := .int (sgI ch)) dJ0_indexOf_0f7a4_3 ok_J0_indexOf_7cf53 rfl im_J0_indexOf_7cf53 se_J0_indexOf_7cf53 mlJ0_633 np_J0_indexOf_7cf53 rfl (Nat.le_of_ble_eq_true rfl) (Nat.le_of_ble_eq_true rfl) (by exact Nat.le_refl _) (by rfl) (jq_ix2 h0 h1) ?_
  exact wq_iret rfl dJ0_indexOf_0f7a4_6
end JDK
theorem wp_signs {d : Nat} {M : MT} {pc : Nat} {P : PH} {sz : Nat} {L : List (Nat × Value)} {st : List Value} {o : Option Value × PH × Nat × Nat} {q : Nat} {x : Int32} (hM : M.1.cls = "LineKeeperModel") (h1 : decode M.2.1 pc = .ok (.ldc 235, 2)) (h2 : decode M.2.1 (pc + 2) = .ok (.iload_n 1, 1)) (h3 : decode M.2.1 (pc + 3) = .ok (.invokevirtual 237, 3)) (hq : L[q]? = some (1, .int x)) (h0 : ¬ x < 0) (h5 : ¬ 255 < x) (hcat : (st.map fun v => v.category).sum ≤ 8) (hm : sz ≤ o.2.2.1) (k : Wp (d + 4) M (pc + 6) P sz L (.int (sgI x) :: st) o) : Wp (d + 4) M pc P sz L st o := by
  intro l D bs p e R s m args below meth c H locs cells slots ls C hW hz hS hl hc hn
  obtain ⟨⟨aK, aV, k1, k2⟩, -⟩ := (pC_G C).2.2
  have k3 := k1.1 0 (by decide)
  have hg : pKA (aK 0, aV 0) bs s := ⟨k3.1, k3.2.1, k3.2.2.1, k3.2.2.2⟩
  refine va_ldcS C.1 C.2.1 (own := "LineKeeperModel") (by rw [← hM]; exact pC_own C) k2 h1 ?_
  refine lv_iload_n (i := 1) C.1 C.2.1 h2 rfl (lv_at hl q hq) ?_
  exact pcallq (v := .int (sgI x)) (o2 := o) C hz hS hl (va_runV (Ts := pWW) (C := "java/lang/String") (As := [.int x]) (rest := st) ⟨C.1, C.2.1, C.2.2.1, pC_own C, fun w hw => pC_word C hw⟩ (wq_met (g := (aK 0, aV 0)) (M := m_J0_indexOf_0f7a4) (k := 0) (o := (some (.int (sgI x)), P, sz, 0)) ok_J0_indexOf_0f7a4.2.1 rfl (Nat.le_of_ble_eq_true rfl) rfl (jq_ix1 h0 h5) l D bs) ⟨pCB C ok_J0_indexOf_0f7a4 (by rw [hM]; exact ml12_237) np_J0_indexOf_0f7a4, pC_word C im_J0_indexOf_0f7a4, pC_word C se_J0_indexOf_0f7a4⟩ (pPreVq C hg hW hz hS) rfl rfl hl.1 rfl (lv_room hcat) h3 ⟨by omega, by omega⟩) (fun H1 locs1 w1 w2 w3 => k l D bs p e R s m args below meth c H1 locs1 cells slots ls C w1 w2 w3 hl hc hn)
theorem sgZ_r (z : Int) : -2147483648 ≤ sgZ z ∧ sgZ z ≤ 2147483647 := inR_toInt _
theorem tm_signs {d : Nat} {M : MT} {pc b : Nat} {σ : MS} {L : List (Nat × Value)} {st : List Value} {post : Option Value → MS → Prop} {q : Nat} {z : Int} (hM : M.1.cls = "LineKeeperModel") (h1 : decode M.2.1 pc = .ok (.ldc 235, 2)) (h2 : decode M.2.1 (pc + 2) = .ok (.iload_n 1, 1)) (h3 : decode M.2.1 (pc + 3) = .ok (.invokevirtual 237, 3)) (hq : L[q]? = some (1, .int (iI z))) (hz : 0 ≤ z ∧ z ≤ 255) (hcat : (st.map fun v => v.category).sum ≤ 8) (k : Tm (d + 4) M (pc + 6) b σ L (.int (iI (sgZ z)) :: st) post) : Tm (d + 4) M pc b σ L st post := fun P0 sz hs => by
  obtain ⟨r, σ2, w, hp⟩ := k P0 sz hs
  refine ⟨r, σ2, wp_signs hM h1 h2 h3 hq (iI_n_lt (b := 0) ⟨by omega, by omega⟩ inR_0 (by omega)) (iI_n_lt (a := 255) ⟨by omega, by omega⟩ ⟨by omega, by omega⟩ (by omega)) hcat (Nat.le_refl _) ?_, hp⟩
  have e : iI (sgZ z) = sgI (iI z) := iI_self _
  rw [e] at w
  exact w
end
section
def TOK (σ : MS) : Prop := (0 ≤ σ.1 19 ∧ σ.1 19 ≤ σ.1 20 ∧ σ.1 20 ≤ σ.1 21 ∧ σ.1 21 ≤ 1200) ∧ (σ.1 22 ≠ 0 → σ.1 19 < σ.1 20) ∧ (0 ≤ σ.1 22 ∧ σ.1 22 ≤ 4) ∧ (-1 ≤ σ.1 23 ∧ σ.1 23 ≤ 9999999)

theorem advP_end {s : Int → Int} {p c : Int} (e : c = s p) (h : c < 0) : advP s p = (p, p, 0, c, 0) := by unfold advP; rw [← e, if_pos h]
theorem advP_let {s : Int → Int} {p c n k : Int} {w : Int64} (e : c = s p) (h : ¬ c < 0) (hl : 97 ≤ c ∧ c ≤ 122) (q : ltp s p 0 0 = (n, w, k)) : advP s p = (p, n, if 6 < k then 1 else 2, c, w) := by unfold advP; rw [← e, if_neg h, if_pos hl, q]
theorem advP_dig {s : Int → Int} {p c n k v : Int} (e : c = s p) (h : ¬ c < 0) (hl : ¬ (97 ≤ c ∧ c ≤ 122)) (hd : 48 ≤ c ∧ c ≤ 57) (q : dgp s p 0 0 = (n, v, k)) : advP s p = (p, n, if 7 < k then 1 else 3, v, 0) := by unfold advP; rw [← e, if_neg h, if_neg hl, if_pos hd, q]
theorem advP_sgn {s : Int → Int} {p c : Int} (e : c = s p) (h : ¬ c < 0) (hl : ¬ (97 ≤ c ∧ c ≤ 122)) (hd : ¬ (48 ≤ c ∧ c ≤ 57)) : advP s p = (p, p + 1, if sgZ c < 0 then 1 else 4, c, 0) := by unfold advP; rw [← e, if_neg h, if_neg hl, if_neg hd]

theorem fl12_207 : Cond.fieldLink RX12 207 (TX12 21).1 (TX12 21).2.1 (TX12 21).2.2.1 ∈ pWW := pw7 (List.mem_of_getElem? (i := 28) rfl) rfl
theorem dX12_see_0 : decode cX12_see 0 = .ok (.iload_n 1, 1) := by decide +kernel
theorem dX12_see_1 : decode cX12_see 1 = .ok (.aload_n 0, 1) := by decide +kernel
theorem dX12_see_2 : decode cX12_see 2 = .ok (.getfield 207, 3) := by decide +kernel
theorem dX12_see_5 : decode cX12_see 5 = .ok (.if_icmp .ge 16, 3) := by decide +kernel
theorem dX12_see_21 : decode cX12_see 21 = .ok (.iconst (-1), 1) := by decide +kernel
theorem dX12_see_22 : decode cX12_see 22 = .ok (.ireturn, 1) := by decide +kernel
theorem dX12_see_8 : decode cX12_see 8 = .ok (.aload_n 0, 1) := by decide +kernel
theorem dX12_see_9 : decode cX12_see 9 = .ok (.getfield 7, 3) := by decide +kernel
theorem dX12_see_12 : decode cX12_see 12 = .ok (.iload_n 1, 1) := by decide +kernel
theorem dX12_see_13 : decode cX12_see 13 = .ok (.baload, 1) := by decide +kernel
theorem dX12_see_14 : decode cX12_see 14 = .ok (.sipush 255, 3) := by decide +kernel
theorem dX12_see_17 : decode cX12_see 17 = .ok (.iand, 1) := by decide +kernel
theorem dX12_see_18 : decode cX12_see 18 = .ok (.goto 4, 3) := by decide +kernel
set_option maxHeartbeats 4000000 in
set_option maxRecDepth 20000 in
theorem c_X12_see (d : Nat) {b : Nat} {σ : MS} {k : Int} (hR : RG σ) (hk : 0 ≤ k ∧ k ≤ 2147483647) (hl : σ.1 21 ≤ 1200) : Tm (d + 1) m_X12_see 0 b σ [(0, .ref b), (1, .int (iI k))] [] (fun ro σ2 => ∃ v : Int, ro = some (.int (iI v)) ∧ σ = σ2 ∧ (v = sv σ k) ∧ (-1 ≤ v ∧ v ≤ 255) ∧ ((v < 0 ↔ σ.1 21 ≤ k))) := by
  refine tm_iload_n dX12_see_0 rfl 1 rfl ?_
  refine tm_aload_n dX12_see_1 rfl 0 rfl ?_
  refine tm_getS (k := 21) (t := σ.1 21) dX12_see_2 (by decide) fl12_207 rfl (rfl) ?_
  have g1 := RG.s hR 21
  refine tm_icmp_ge (tgt := 21) dX12_see_5 (by decide) ⟨by omega, by omega⟩ ⟨by omega, by omega⟩ (fun h2 => ?_) (fun h2 => ?_)
  · refine tm_iconst dX12_see_21 ?_
    exact tm_iret rfl dX12_see_22 (⟨_, rfl, rfl, (if_neg (by omega)).symm, by omega, by omega⟩)
  · refine tm_aload_n dX12_see_8 rfl 0 rfl ?_
    refine tm_get (k := 1) (v := .ref (b + 1 + 0)) lay_12 dX12_see_9 (by decide) fl12_7 rfl ?_
    refine tm_iload_n dX12_see_12 rfl 1 rfl ?_
    refine tm_bald (z := k) (v := σ.2.1 1 k) dX12_see_13 (show mT[0]? = some (1, 1, 1200) from rfl) (by omega) (by omega) (by decide) (rfl) ?_
    have g3 := RG.a hR 1 (k)
    refine tm_sipush dX12_see_14 (by decide) ?_
    refine tm_iand dX12_see_17 ?_
    refine tm_goto (tgt := 22) dX12_see_18 (by decide) ?_
    exact tm_iret rfl dX12_see_22 (⟨an5 (σ.2.1 1 k), by rw [an5_eq], rfl, (if_pos (by omega)).symm, by have := an5_r (σ.2.1 1 k); omega, by have := an5_r (σ.2.1 1 k); omega⟩)
theorem fl12_210 : Cond.fieldLink RX12 210 (TX12 20).1 (TX12 20).2.1 (TX12 20).2.2.1 ∈ pWW := pw7 (List.mem_of_getElem? (i := 27) rfl) rfl
theorem ml12_213 : Cond.methodLink RX12 213 yX12_see ∈ pWW := pw8 (List.mem_of_getElem? (i := 55) rfl) rfl
theorem dX12_advance_0 : decode cX12_advance 0 = .ok (.aload_n 0, 1) := by decide +kernel
theorem dX12_advance_1 : decode cX12_advance 1 = .ok (.aload_n 0, 1) := by decide +kernel
theorem dX12_advance_2 : decode cX12_advance 2 = .ok (.getfield 210, 3) := by decide +kernel
theorem dX12_advance_5 : decode cX12_advance 5 = .ok (.invokevirtual 213, 3) := by decide +kernel
theorem dX12_advance_8 : decode cX12_advance 8 = .ok (.bipush 10, 2) := by decide +kernel
theorem dX12_advance_10 : decode cX12_advance 10 = .ok (.if_icmp .eq 16, 3) := by decide +kernel
theorem dX12_advance_26 : decode cX12_advance 26 = .ok (.aload_n 0, 1) := by decide +kernel
theorem dX12_advance_27 : decode cX12_advance 27 = .ok (.dup, 1) := by decide +kernel
theorem dX12_advance_28 : decode cX12_advance 28 = .ok (.getfield 210, 3) := by decide +kernel
theorem dX12_advance_31 : decode cX12_advance 31 = .ok (.iconst 1, 1) := by decide +kernel
theorem dX12_advance_32 : decode cX12_advance 32 = .ok (.iadd, 1) := by decide +kernel
theorem dX12_advance_33 : decode cX12_advance 33 = .ok (.putfield 210, 3) := by decide +kernel
theorem dX12_advance_36 : decode cX12_advance 36 = .ok (.goto (-36), 3) := by decide +kernel
theorem dX12_advance_13 : decode cX12_advance 13 = .ok (.aload_n 0, 1) := by decide +kernel
theorem dX12_advance_14 : decode cX12_advance 14 = .ok (.aload_n 0, 1) := by decide +kernel
theorem dX12_advance_15 : decode cX12_advance 15 = .ok (.getfield 210, 3) := by decide +kernel
theorem dX12_advance_18 : decode cX12_advance 18 = .ok (.invokevirtual 213, 3) := by decide +kernel
theorem dX12_advance_21 : decode cX12_advance 21 = .ok (.bipush 32, 2) := by decide +kernel
theorem dX12_advance_23 : decode cX12_advance 23 = .ok (.if_icmp .ne 16, 3) := by decide +kernel
set_option maxHeartbeats 4000000 in
set_option maxRecDepth 20000 in
theorem l_adv0 (d : Nat) {b : Nat} {σ0 : MS} {p0 : Int} {post : Option Value → MS → Prop} (hR0 : RG σ0) (hlen : 0 ≤ σ0.1 21 ∧ σ0.1 21 ≤ 1200 ∧ 0 ≤ σ0.1 20) (hx_39 : ∀ (σ : MS) , (Fr [20] [] [] σ0 σ) → (RG σ) → (0 ≤ σ.1 20 ∧ σ.1 20 ≤ σ0.1 21 ∧ σ0.1 20 ≤ σ.1 20) → (σ.1 20 = p0) → Tm (d + 2) m_X12_advance 39 b σ [(0, .ref b)] [] post) : ∀ (n : Nat) (σ : MS) , (Fr [20] [] [] σ0 σ) → (RG σ) → (0 ≤ σ.1 20 ∧ σ.1 20 ≤ σ0.1 21 ∧ σ0.1 20 ≤ σ.1 20) → (wsp (sv σ0) (σ.1 20) = p0) → (1300 - σ.1 20).toNat = n → Tm (d + 2) m_X12_advance 0 b σ [(0, .ref b)] [] post := by
  intro n
  induction n using Nat.strongRecOn with
  | _ n ih =>
    intro  σ hF hR h0 hw hm
    have svF : sv σ = sv σ0 := sv_fr hF (by decide) (by decide)
    have e21 : σ.1 21 = σ0.1 21 := hF.1 21 (by decide)
    refine tm_aload_n dX12_advance_0 rfl 0 rfl ?_
    refine tm_aload_n dX12_advance_1 rfl 0 rfl ?_
    refine tm_getS (k := 20) (t := σ.1 20) dX12_advance_2 (by decide) fl12_210 rfl (rfl) ?_
    have g1 := RG.s hR 20
    refine tm_callV (M := m_X12_advance) (pc := 5) (ix := 213) (M' := m_X12_see) (As := [.int (iI (σ.1 20))]) (rest := []) dX12_advance_5 ok_X12_see im_X12_see se_X12_see ml12_213 np_X12_see rfl rfl (Nat.le_of_ble_eq_true rfl) (Nat.le_of_ble_eq_true rfl) rfl (c_X12_see (d) (σ := σ) (k := σ.1 20) hR (by omega) (by rw [show σ.1 21 = σ0.1 21 from rs_F hF (by decide) (rfl)]; omega)) (fun r2 σ3 hp => ?_)
    obtain ⟨v4, rfl, rfl, f5, f6, f7⟩ := hp
    show Tm _ _ 8 b σ [(0, .ref b)] [.int (iI v4)] _
    have es1 : v4 = sv σ0 (σ.1 20) := by rw [f5, svF]
    refine tm_bipush dX12_advance_8 (by decide) ?_
    refine tm_icmp_eq (tgt := 26) dX12_advance_10 (by decide) ⟨by omega, by omega⟩ ⟨by decide, by decide⟩ (fun h8 => ?_) (fun h8 => ?_)
    · refine tm_aload_n dX12_advance_26 rfl 0 rfl ?_
      refine tm_dup dX12_advance_27 rfl ?_
      refine tm_getS (k := 20) (t := σ.1 20) dX12_advance_28 (by decide) fl12_210 rfl (rfl) ?_
      have g9 := RG.s hR 20
      refine tm_iconst dX12_advance_31 ?_
      refine tm_iadd dX12_advance_32 ?_
      refine tm_putS (k := 20) (v := (σ.1 20) + 1) lay_12 dX12_advance_33 (by decide) fl12_210 rfl (tyX12_ok 20 (by decide)) rfl rfl rfl ?_
      refine tm_goto (tgt := 0) dX12_advance_36 (by decide) ?_
      exact tm_sub [0] rfl (ih _ (by rw [show (sS 20 ((σ.1 20) + 1) σ).1 20 = (σ.1 20) + 1 from rs_eq]; omega)  (sS 20 ((σ.1 20) + 1) σ) ((Fr.rfl.trans (Fr.sub hF (by decide) (by decide) (by decide))).S (by decide)) (hR.S (by omega)) (by rw [show (sS 20 ((σ.1 20) + 1) σ).1 20 = (σ.1 20) + 1 from rs_eq]; omega) ((wsp_s (by omega) (by omega)).symm.trans hw) rfl)
    · refine tm_aload_n dX12_advance_13 rfl 0 rfl ?_
      refine tm_aload_n dX12_advance_14 rfl 0 rfl ?_
      refine tm_getS (k := 20) (t := σ.1 20) dX12_advance_15 (by decide) fl12_210 rfl (rfl) ?_
      have g10 := RG.s hR 20
      refine tm_callV (M := m_X12_advance) (pc := 18) (ix := 213) (M' := m_X12_see) (As := [.int (iI (σ.1 20))]) (rest := []) dX12_advance_18 ok_X12_see im_X12_see se_X12_see ml12_213 np_X12_see rfl rfl (Nat.le_of_ble_eq_true rfl) (Nat.le_of_ble_eq_true rfl) rfl (c_X12_see (d) (σ := σ) (k := σ.1 20) hR (by omega) (by rw [show σ.1 21 = σ0.1 21 from rs_F hF (by decide) (rfl)]; omega)) (fun r11 σ12 hp => ?_)
      obtain ⟨v13, rfl, rfl, f14, f15, f16⟩ := hp
      show Tm _ _ 21 b σ [(0, .ref b)] [.int (iI v13)] _
      have es2 : v13 = sv σ0 (σ.1 20) := by rw [f14, svF]
      refine tm_bipush dX12_advance_21 (by decide) ?_
      refine tm_icmp_ne (tgt := 39) dX12_advance_23 (by decide) ⟨by omega, by omega⟩ ⟨by decide, by decide⟩ (fun h17 => ?_) (fun h17 => ?_)
      · exact tm_sub [0] rfl (hx_39  σ (Fr.rfl.trans (Fr.sub hF (by decide) (by decide) (by decide))) hR (by omega) ((wsp_e (by omega)).symm.trans hw))
      · refine tm_aload_n dX12_advance_26 rfl 0 rfl ?_
        refine tm_dup dX12_advance_27 rfl ?_
        refine tm_getS (k := 20) (t := σ.1 20) dX12_advance_28 (by decide) fl12_210 rfl (rfl) ?_
        have g18 := RG.s hR 20
        refine tm_iconst dX12_advance_31 ?_
        refine tm_iadd dX12_advance_32 ?_
        refine tm_putS (k := 20) (v := (σ.1 20) + 1) lay_12 dX12_advance_33 (by decide) fl12_210 rfl (tyX12_ok 20 (by decide)) rfl rfl rfl ?_
        refine tm_goto (tgt := 0) dX12_advance_36 (by decide) ?_
        exact tm_sub [0] rfl (ih _ (by rw [show (sS 20 ((σ.1 20) + 1) σ).1 20 = (σ.1 20) + 1 from rs_eq]; omega)  (sS 20 ((σ.1 20) + 1) σ) ((Fr.rfl.trans (Fr.sub hF (by decide) (by decide) (by decide))).S (by decide)) (hR.S (by omega)) (by rw [show (sS 20 ((σ.1 20) + 1) σ).1 20 = (σ.1 20) + 1 from rs_eq]; omega) ((wsp_s (by omega) (by omega)).symm.trans hw) rfl)
theorem ml12_229 : Cond.methodLink RX12 229 yX12_isLetter ∈ pWW := pw8 (List.mem_of_getElem? (i := 59) rfl) rfl
theorem dX12_advance_87 : decode cX12_advance 87 = .ok (.aload_n 0, 1) := by decide +kernel
theorem dX12_advance_88 : decode cX12_advance 88 = .ok (.aload_n 0, 1) := by decide +kernel
theorem dX12_advance_89 : decode cX12_advance 89 = .ok (.getfield 210, 3) := by decide +kernel
theorem dX12_advance_92 : decode cX12_advance 92 = .ok (.invokevirtual 213, 3) := by decide +kernel
theorem dX12_advance_95 : decode cX12_advance 95 = .ok (.invokestatic 229, 3) := by decide +kernel
theorem dX12_advance_98 : decode cX12_advance 98 = .ok (.ifCond .eq 40, 3) := by decide +kernel
theorem dX12_advance_101 : decode cX12_advance 101 = .ok (.aload_n 0, 1) := by decide +kernel
theorem dX12_advance_102 : decode cX12_advance 102 = .ok (.aload_n 0, 1) := by decide +kernel
theorem dX12_advance_103 : decode cX12_advance 103 = .ok (.getfield 219, 3) := by decide +kernel
theorem dX12_advance_106 : decode cX12_advance 106 = .ok (.bipush 8, 2) := by decide +kernel
theorem dX12_advance_108 : decode cX12_advance 108 = .ok (.lshl, 1) := by decide +kernel
theorem dX12_advance_109 : decode cX12_advance 109 = .ok (.aload_n 0, 1) := by decide +kernel
theorem dX12_advance_110 : decode cX12_advance 110 = .ok (.aload_n 0, 1) := by decide +kernel
theorem dX12_advance_111 : decode cX12_advance 111 = .ok (.getfield 210, 3) := by decide +kernel
theorem dX12_advance_114 : decode cX12_advance 114 = .ok (.invokevirtual 213, 3) := by decide +kernel
theorem dX12_advance_117 : decode cX12_advance 117 = .ok (.i2l, 1) := by decide +kernel
theorem dX12_advance_118 : decode cX12_advance 118 = .ok (.lor, 1) := by decide +kernel
theorem dX12_advance_119 : decode cX12_advance 119 = .ok (.putfield 219, 3) := by decide +kernel
theorem dX12_advance_122 : decode cX12_advance 122 = .ok (.aload_n 0, 1) := by decide +kernel
theorem dX12_advance_123 : decode cX12_advance 123 = .ok (.dup, 1) := by decide +kernel
theorem dX12_advance_124 : decode cX12_advance 124 = .ok (.getfield 210, 3) := by decide +kernel
theorem dX12_advance_127 : decode cX12_advance 127 = .ok (.iconst 1, 1) := by decide +kernel
theorem dX12_advance_128 : decode cX12_advance 128 = .ok (.iadd, 1) := by decide +kernel
theorem dX12_advance_129 : decode cX12_advance 129 = .ok (.putfield 210, 3) := by decide +kernel
theorem dX12_advance_132 : decode cX12_advance 132 = .ok (.iinc 2 1, 3) := by decide +kernel
theorem dX12_advance_135 : decode cX12_advance 135 = .ok (.goto (-48), 3) := by decide +kernel
set_option maxHeartbeats 4000000 in
set_option maxRecDepth 20000 in
theorem l_adv1 (d : Nat) {b : Nat} {σ0 : MS} {c : Int} {R0 : Int × Int64 × Int} {post : Option Value → MS → Prop} (hR0 : RG σ0) (hlen : 0 ≤ σ0.1 21 ∧ σ0.1 21 ≤ 1200 ∧ 0 ≤ σ0.1 20) (hcl : 97 ≤ c ∧ c ≤ 122) (hx_138 : ∀ (n1 : Int) (σ : MS) , (Fr [20] [] [24] σ0 σ) → (RG σ) → (0 ≤ σ.1 20 ∧ σ.1 20 ≤ σ0.1 21 ∧ σ0.1 20 ≤ σ.1 20 ∧ n1 = σ.1 20 - σ0.1 20 ∧ 1 ≤ n1) → (R0 = (σ.1 20, σ.2.2 24 0, n1)) → Tm (d + 3) m_X12_advance 138 b σ [(2, .int (iI n1)), (1, .int (iI c)), (0, .ref b)] [] post) : ∀ (n : Nat) (n1 : Int) (σ : MS) , (Fr [20] [] [24] σ0 σ) → (RG σ) → (0 ≤ σ.1 20 ∧ σ.1 20 ≤ σ0.1 21 ∧ σ0.1 20 ≤ σ.1 20 ∧ n1 = σ.1 20 - σ0.1 20) → (n1 = 0 → c = sv σ0 (σ.1 20)) → (ltp (sv σ0) (σ.1 20) (σ.2.2 24 0) n1 = R0) → (1300 - σ.1 20).toNat = n → Tm (d + 3) m_X12_advance 87 b σ [(2, .int (iI n1)), (1, .int (iI c)), (0, .ref b)] [] post := by
  intro n
  induction n using Nat.strongRecOn with
  | _ n ih =>
    intro n1 σ hF hR h0 hc hw hm
    have svF : sv σ = sv σ0 := sv_fr hF (by decide) (by decide)
    have e21 : σ.1 21 = σ0.1 21 := hF.1 21 (by decide)
    refine tm_aload_n dX12_advance_87 rfl 2 rfl ?_
    refine tm_aload_n dX12_advance_88 rfl 2 rfl ?_
    refine tm_getS (k := 20) (t := σ.1 20) dX12_advance_89 (by decide) fl12_210 rfl (rfl) ?_
    have g1 := RG.s hR 20
    refine tm_callV (M := m_X12_advance) (pc := 92) (ix := 213) (M' := m_X12_see) (As := [.int (iI (σ.1 20))]) (rest := []) dX12_advance_92 ok_X12_see im_X12_see se_X12_see ml12_213 np_X12_see rfl rfl (Nat.le_of_ble_eq_true rfl) (Nat.le_of_ble_eq_true rfl) rfl (c_X12_see (d + 1) (σ := σ) (k := σ.1 20) hR (by omega) (by rw [show σ.1 21 = σ0.1 21 from rs_F hF (by decide) (rfl)]; omega)) (fun r2 σ3 hp => ?_)
    obtain ⟨v4, rfl, rfl, f5, f6, f7⟩ := hp
    show Tm _ _ 95 b σ [(2, .int (iI n1)), (1, .int (iI c)), (0, .ref b)] [.int (iI v4)] _
    have es1 : v4 = sv σ0 (σ.1 20) := by rw [f5, svF]
    refine tm_callS (M := m_X12_advance) (pc := 95) (ix := 229) (M' := m_X12_isLetter) (As := [.int (iI v4)]) (rest := []) dX12_advance_95 ok_X12_isLetter stt_X12_isLetter ml12_229 np_X12_isLetter rfl (Nat.le_of_ble_eq_true rfl) (Nat.le_of_ble_eq_true rfl) rfl (c_X12_isLetter (d) (σ := σ) (x := v4) (by omega)) (fun r8 σ9 hp => ?_)
    obtain ⟨v10, rfl, rfl, f11, f12⟩ := hp
    show Tm _ _ 98 b σ [(2, .int (iI n1)), (1, .int (iI c)), (0, .ref b)] [.int (iI v10)] _
    refine tm_if_eq (tgt := 138) dX12_advance_98 (by decide) ⟨by omega, by omega⟩ (fun h13 => ?_) (fun h13 => ?_)
    · exact tm_sub [0, 1, 2] rfl (hx_138 (n1) σ (Fr.rfl.trans (Fr.sub hF (by decide) (by decide) (by decide))) hR (by omega) (hw.symm.trans (ltp_e (by omega))))
    · refine tm_aload_n dX12_advance_101 rfl 2 rfl ?_
      refine tm_aload_n dX12_advance_102 rfl 2 rfl ?_
      refine tm_getW (t := σ.2.2 24 0) dX12_advance_103 fl12_219 (rfl) ?_
      refine tm_bipush dX12_advance_106 (by decide) ?_
      refine tm_lshl dX12_advance_108 ?_
      refine tm_aload_n dX12_advance_109 rfl 2 rfl ?_
      refine tm_aload_n dX12_advance_110 rfl 2 rfl ?_
      refine tm_getS (k := 20) (t := σ.1 20) dX12_advance_111 (by decide) fl12_210 rfl (rfl) ?_
      have g14 := RG.s hR 20
      refine tm_callV (M := m_X12_advance) (pc := 114) (ix := 213) (M' := m_X12_see) (As := [.int (iI (σ.1 20))]) (rest := [.long ((σ.2.2 24 0) <<< ((iI 8).toInt64 &&& 63)), .ref b]) dX12_advance_114 ok_X12_see im_X12_see se_X12_see ml12_213 np_X12_see rfl rfl (Nat.le_of_ble_eq_true rfl) (Nat.le_of_ble_eq_true rfl) rfl (c_X12_see (d + 1) (σ := σ) (k := σ.1 20) hR (by omega) (by rw [show σ.1 21 = σ0.1 21 from rs_F hF (by decide) (rfl)]; omega)) (fun r15 σ16 hp => ?_)
      obtain ⟨v17, rfl, rfl, f18, f19, f20⟩ := hp
      show Tm _ _ 117 b σ [(2, .int (iI n1)), (1, .int (iI c)), (0, .ref b)] [.int (iI v17), .long ((σ.2.2 24 0) <<< ((iI 8).toInt64 &&& 63)), .ref b] _
      have es2 : v17 = sv σ0 (σ.1 20) := by rw [f18, svF]
      refine tm_i2l dX12_advance_117 ?_
      refine tm_lor dX12_advance_118 ?_
      refine tm_putW lay_12 dX12_advance_119 fl12_219 ?_
      refine tm_aload_n dX12_advance_122 rfl 2 rfl ?_
      refine tm_dup dX12_advance_123 rfl ?_
      refine tm_getS (k := 20) (t := σ.1 20) dX12_advance_124 (by decide) fl12_210 rfl (rs_J (rfl)) ?_
      have g21 := RG.s hR 20
      refine tm_iconst dX12_advance_127 ?_
      refine tm_iadd dX12_advance_128 ?_
      refine tm_putS (k := 20) (v := (σ.1 20) + 1) lay_12 dX12_advance_129 (by decide) fl12_210 rfl (tyX12_ok 20 (by decide)) rfl rfl rfl ?_
      refine tm_iinc (q0 := 0) (L' := [(2, .int (iI (n1 + 1))), (1, .int (iI c)), (0, .ref b)]) dX12_advance_132 rfl (by decide) rfl ?_
      refine tm_goto (tgt := 87) dX12_advance_135 (by decide) ?_
      exact tm_sub [0, 1, 2] rfl (ih _ (by rw [show (sS 20 ((σ.1 20) + 1) (sJ 24 0 (((σ.2.2 24 0) <<< ((iI 8).toInt64 &&& 63)) ||| ((iI v17).toInt64)) σ)).1 20 = (σ.1 20) + 1 from rs_eq]; omega) (n1 + 1) (sS 20 ((σ.1 20) + 1) (sJ 24 0 (((σ.2.2 24 0) <<< ((iI 8).toInt64 &&& 63)) ||| ((iI v17).toInt64)) σ)) (((Fr.rfl.trans (Fr.sub hF (by decide) (by decide) (by decide))).J (by decide)).S (by decide)) ((hR.J).S (by omega)) (by rw [show (sS 20 ((σ.1 20) + 1) (sJ 24 0 (((σ.2.2 24 0) <<< ((iI 8).toInt64 &&& 63)) ||| ((iI v17).toInt64)) σ)).1 20 = (σ.1 20) + 1 from rs_eq]; omega) (fun q => absurd q (by omega)) (by rw [es2]; exact (ltp_s (by omega) (by omega)).symm.trans hw) rfl)
theorem ml12_232 : Cond.methodLink RX12 232 yX12_isDigit ∈ pWW := pw8 (List.mem_of_getElem? (i := 62) rfl) rfl
theorem dX12_advance_170 : decode cX12_advance 170 = .ok (.aload_n 0, 1) := by decide +kernel
theorem dX12_advance_171 : decode cX12_advance 171 = .ok (.aload_n 0, 1) := by decide +kernel
theorem dX12_advance_172 : decode cX12_advance 172 = .ok (.getfield 210, 3) := by decide +kernel
theorem dX12_advance_175 : decode cX12_advance 175 = .ok (.invokevirtual 213, 3) := by decide +kernel
theorem dX12_advance_178 : decode cX12_advance 178 = .ok (.invokestatic 232, 3) := by decide +kernel
theorem dX12_advance_181 : decode cX12_advance 181 = .ok (.ifCond .eq 55, 3) := by decide +kernel
theorem dX12_advance_184 : decode cX12_advance 184 = .ok (.aload_n 0, 1) := by decide +kernel
theorem dX12_advance_185 : decode cX12_advance 185 = .ok (.iload_n 2, 1) := by decide +kernel
theorem dX12_advance_186 : decode cX12_advance 186 = .ok (.bipush 7, 2) := by decide +kernel
theorem dX12_advance_188 : decode cX12_advance 188 = .ok (.if_icmp .ge 25, 3) := by decide +kernel
theorem dX12_advance_213 : decode cX12_advance 213 = .ok (.aload_n 0, 1) := by decide +kernel
theorem dX12_advance_214 : decode cX12_advance 214 = .ok (.getfield 223, 3) := by decide +kernel
theorem dX12_advance_217 : decode cX12_advance 217 = .ok (.putfield 223, 3) := by decide +kernel
theorem dX12_advance_220 : decode cX12_advance 220 = .ok (.aload_n 0, 1) := by decide +kernel
theorem dX12_advance_221 : decode cX12_advance 221 = .ok (.dup, 1) := by decide +kernel
theorem dX12_advance_222 : decode cX12_advance 222 = .ok (.getfield 210, 3) := by decide +kernel
theorem dX12_advance_225 : decode cX12_advance 225 = .ok (.iconst 1, 1) := by decide +kernel
theorem dX12_advance_226 : decode cX12_advance 226 = .ok (.iadd, 1) := by decide +kernel
theorem dX12_advance_227 : decode cX12_advance 227 = .ok (.putfield 210, 3) := by decide +kernel
theorem dX12_advance_230 : decode cX12_advance 230 = .ok (.iinc 2 1, 3) := by decide +kernel
theorem dX12_advance_233 : decode cX12_advance 233 = .ok (.goto (-63), 3) := by decide +kernel
theorem dX12_advance_191 : decode cX12_advance 191 = .ok (.bipush 10, 2) := by decide +kernel
theorem dX12_advance_193 : decode cX12_advance 193 = .ok (.aload_n 0, 1) := by decide +kernel
theorem dX12_advance_194 : decode cX12_advance 194 = .ok (.getfield 223, 3) := by decide +kernel
theorem dX12_advance_197 : decode cX12_advance 197 = .ok (.imul, 1) := by decide +kernel
theorem dX12_advance_198 : decode cX12_advance 198 = .ok (.aload_n 0, 1) := by decide +kernel
theorem dX12_advance_199 : decode cX12_advance 199 = .ok (.aload_n 0, 1) := by decide +kernel
theorem dX12_advance_200 : decode cX12_advance 200 = .ok (.getfield 210, 3) := by decide +kernel
theorem dX12_advance_203 : decode cX12_advance 203 = .ok (.invokevirtual 213, 3) := by decide +kernel
theorem dX12_advance_206 : decode cX12_advance 206 = .ok (.iadd, 1) := by decide +kernel
theorem dX12_advance_207 : decode cX12_advance 207 = .ok (.bipush 48, 2) := by decide +kernel
theorem dX12_advance_209 : decode cX12_advance 209 = .ok (.isub, 1) := by decide +kernel
theorem dX12_advance_210 : decode cX12_advance 210 = .ok (.goto 7, 3) := by decide +kernel
set_option maxHeartbeats 4000000 in
set_option maxRecDepth 20000 in
theorem l_adv2 (d : Nat) {b : Nat} {σ0 : MS} {c : Int} {R0 : Int × Int × Int} {post : Option Value → MS → Prop} (hR0 : RG σ0) (hlen : 0 ≤ σ0.1 21 ∧ σ0.1 21 ≤ 1200 ∧ 0 ≤ σ0.1 20) (hcl : 48 ≤ c ∧ c ≤ 57) (hx_236 : ∀ (n1 : Int) (σ : MS) , (Fr [20, 23] [] [] σ0 σ) → (RG σ) → (0 ≤ σ.1 20 ∧ σ.1 20 ≤ σ0.1 21 ∧ σ0.1 20 ≤ σ.1 20 ∧ n1 = σ.1 20 - σ0.1 20 ∧ 1 ≤ n1) → (0 ≤ σ.1 23 ∧ σ.1 23 ≤ 9999999) → (R0 = (σ.1 20, σ.1 23, n1)) → Tm (d + 3) m_X12_advance 236 b σ [(2, .int (iI n1)), (1, .int (iI c)), (0, .ref b)] [] post) : ∀ (n : Nat) (n1 : Int) (σ : MS) , (Fr [20, 23] [] [] σ0 σ) → (RG σ) → (0 ≤ σ.1 20 ∧ σ.1 20 ≤ σ0.1 21 ∧ σ0.1 20 ≤ σ.1 20 ∧ n1 = σ.1 20 - σ0.1 20) → (n1 = 0 → c = sv σ0 (σ.1 20)) → ((n1 = 0 → σ.1 23 = 0) ∧ (n1 = 1 → σ.1 23 ≤ 9) ∧ (n1 = 2 → σ.1 23 ≤ 99) ∧ (n1 = 3 → σ.1 23 ≤ 999) ∧ (n1 = 4 → σ.1 23 ≤ 9999) ∧ (n1 = 5 → σ.1 23 ≤ 99999) ∧ (n1 = 6 → σ.1 23 ≤ 999999) ∧ 0 ≤ σ.1 23 ∧ σ.1 23 ≤ 9999999) → (dgp (sv σ0) (σ.1 20) (σ.1 23) n1 = R0) → (1300 - σ.1 20).toNat = n → Tm (d + 3) m_X12_advance 170 b σ [(2, .int (iI n1)), (1, .int (iI c)), (0, .ref b)] [] post := by
  intro n
  induction n using Nat.strongRecOn with
  | _ n ih =>
    intro n1 σ hF hR h0 hc hv hw hm
    have svF : sv σ = sv σ0 := sv_fr hF (by decide) (by decide)
    have e21 : σ.1 21 = σ0.1 21 := hF.1 21 (by decide)
    refine tm_aload_n dX12_advance_170 rfl 2 rfl ?_
    refine tm_aload_n dX12_advance_171 rfl 2 rfl ?_
    refine tm_getS (k := 20) (t := σ.1 20) dX12_advance_172 (by decide) fl12_210 rfl (rfl) ?_
    have g1 := RG.s hR 20
    refine tm_callV (M := m_X12_advance) (pc := 175) (ix := 213) (M' := m_X12_see) (As := [.int (iI (σ.1 20))]) (rest := []) dX12_advance_175 ok_X12_see im_X12_see se_X12_see ml12_213 np_X12_see rfl rfl (Nat.le_of_ble_eq_true rfl) (Nat.le_of_ble_eq_true rfl) rfl (c_X12_see (d + 1) (σ := σ) (k := σ.1 20) hR (by omega) (by rw [show σ.1 21 = σ0.1 21 from rs_F hF (by decide) (rfl)]; omega)) (fun r2 σ3 hp => ?_)
    obtain ⟨v4, rfl, rfl, f5, f6, f7⟩ := hp
    show Tm _ _ 178 b σ [(2, .int (iI n1)), (1, .int (iI c)), (0, .ref b)] [.int (iI v4)] _
    have es1 : v4 = sv σ0 (σ.1 20) := by rw [f5, svF]
    refine tm_callS (M := m_X12_advance) (pc := 178) (ix := 232) (M' := m_X12_isDigit) (As := [.int (iI v4)]) (rest := []) dX12_advance_178 ok_X12_isDigit stt_X12_isDigit ml12_232 np_X12_isDigit rfl (Nat.le_of_ble_eq_true rfl) (Nat.le_of_ble_eq_true rfl) rfl (c_X12_isDigit (d) (σ := σ) (x := v4) (by omega)) (fun r8 σ9 hp => ?_)
    obtain ⟨v10, rfl, rfl, f11, f12⟩ := hp
    show Tm _ _ 181 b σ [(2, .int (iI n1)), (1, .int (iI c)), (0, .ref b)] [.int (iI v10)] _
    refine tm_if_eq (tgt := 236) dX12_advance_181 (by decide) ⟨by omega, by omega⟩ (fun h13 => ?_) (fun h13 => ?_)
    · exact tm_sub [0, 1, 2] rfl (hx_236 (n1) σ (Fr.rfl.trans (Fr.sub hF (by decide) (by decide) (by decide))) hR (by omega) (by omega) (hw.symm.trans (dgp_e (by omega))))
    · refine tm_aload_n dX12_advance_184 rfl 2 rfl ?_
      refine tm_iload_n dX12_advance_185 rfl 0 rfl ?_
      refine tm_bipush dX12_advance_186 (by decide) ?_
      refine tm_icmp_ge (tgt := 213) dX12_advance_188 (by decide) ⟨by omega, by omega⟩ ⟨by decide, by decide⟩ (fun h14 => ?_) (fun h14 => ?_)
      · refine tm_aload_n dX12_advance_213 rfl 2 rfl ?_
        refine tm_getS (k := 23) (t := σ.1 23) dX12_advance_214 (by decide) fl12_223 rfl (rfl) ?_
        have g15 := RG.s hR 23
        refine tm_putS (k := 23) (v := σ.1 23) lay_12 dX12_advance_217 (by decide) fl12_223 rfl (tyX12_ok 23 (by decide)) rfl rfl rfl ?_
        refine tm_aload_n dX12_advance_220 rfl 2 rfl ?_
        refine tm_dup dX12_advance_221 rfl ?_
        refine tm_getS (k := 20) (t := σ.1 20) dX12_advance_222 (by decide) fl12_210 rfl (rs_o (by decide) (rfl)) ?_
        have g16 := RG.s hR 20
        refine tm_iconst dX12_advance_225 ?_
        refine tm_iadd dX12_advance_226 ?_
        refine tm_putS (k := 20) (v := (σ.1 20) + 1) lay_12 dX12_advance_227 (by decide) fl12_210 rfl (tyX12_ok 20 (by decide)) rfl rfl rfl ?_
        refine tm_iinc (q0 := 0) (L' := [(2, .int (iI (n1 + 1))), (1, .int (iI c)), (0, .ref b)]) dX12_advance_230 rfl (by decide) rfl ?_
        refine tm_goto (tgt := 170) dX12_advance_233 (by decide) ?_
        exact tm_sub [0, 1, 2] rfl (ih _ (by rw [show (sS 20 ((σ.1 20) + 1) (sS 23 (σ.1 23) σ)).1 20 = (σ.1 20) + 1 from rs_eq]; omega) (n1 + 1) (sS 20 ((σ.1 20) + 1) (sS 23 (σ.1 23) σ)) (((Fr.rfl.trans (Fr.sub hF (by decide) (by decide) (by decide))).S (by decide)).S (by decide)) ((hR.S (by omega)).S (by omega)) (by rw [show (sS 20 ((σ.1 20) + 1) (sS 23 (σ.1 23) σ)).1 20 = (σ.1 20) + 1 from rs_eq]; omega) (fun q => absurd q (by omega)) (by rw [show (sS 20 ((σ.1 20) + 1) (sS 23 (σ.1 23) σ)).1 23 = σ.1 23 from rs_o (by decide) (rs_eq)]; omega) (by have z := dgp_s (s := sv σ0) (n := σ.1 20) (v := σ.1 23) (c := n1) (by omega) (by omega); unfold dgv at z; rw [if_neg (by omega)] at z; exact z.symm.trans hw) rfl)
      · refine tm_bipush dX12_advance_191 (by decide) ?_
        refine tm_aload_n dX12_advance_193 rfl 2 rfl ?_
        refine tm_getS (k := 23) (t := σ.1 23) dX12_advance_194 (by decide) fl12_223 rfl (rfl) ?_
        have g17 := RG.s hR 23
        refine tm_imul dX12_advance_197 ?_
        refine tm_aload_n dX12_advance_198 rfl 2 rfl ?_
        refine tm_aload_n dX12_advance_199 rfl 2 rfl ?_
        refine tm_getS (k := 20) (t := σ.1 20) dX12_advance_200 (by decide) fl12_210 rfl (rfl) ?_
        have g18 := RG.s hR 20
        refine tm_callV (M := m_X12_advance) (pc := 203) (ix := 213) (M' := m_X12_see) (As := [.int (iI (σ.1 20))]) (rest := [.int (iI (10 * (σ.1 23))), .ref b]) dX12_advance_203 ok_X12_see im_X12_see se_X12_see ml12_213 np_X12_see rfl rfl (Nat.le_of_ble_eq_true rfl) (Nat.le_of_ble_eq_true rfl) rfl (c_X12_see (d + 1) (σ := σ) (k := σ.1 20) hR (by omega) (by rw [show σ.1 21 = σ0.1 21 from rs_F hF (by decide) (rfl)]; omega)) (fun r19 σ20 hp => ?_)
        obtain ⟨v21, rfl, rfl, f22, f23, f24⟩ := hp
        show Tm _ _ 206 b σ [(2, .int (iI n1)), (1, .int (iI c)), (0, .ref b)] [.int (iI v21), .int (iI (10 * (σ.1 23))), .ref b] _
        have es2 : v21 = sv σ0 (σ.1 20) := by rw [f22, svF]
        refine tm_iadd dX12_advance_206 ?_
        refine tm_bipush dX12_advance_207 (by decide) ?_
        refine tm_isub dX12_advance_209 ?_
        refine tm_goto (tgt := 217) dX12_advance_210 (by decide) ?_
        refine tm_putS (k := 23) (v := ((10 * (σ.1 23)) + v21) - 48) lay_12 dX12_advance_217 (by decide) fl12_223 rfl (tyX12_ok 23 (by decide)) rfl rfl rfl ?_
        refine tm_aload_n dX12_advance_220 rfl 2 rfl ?_
        refine tm_dup dX12_advance_221 rfl ?_
        refine tm_getS (k := 20) (t := σ.1 20) dX12_advance_222 (by decide) fl12_210 rfl (rs_o (by decide) (rfl)) ?_
        have g25 := RG.s hR 20
        refine tm_iconst dX12_advance_225 ?_
        refine tm_iadd dX12_advance_226 ?_
        refine tm_putS (k := 20) (v := (σ.1 20) + 1) lay_12 dX12_advance_227 (by decide) fl12_210 rfl (tyX12_ok 20 (by decide)) rfl rfl rfl ?_
        refine tm_iinc (q0 := 0) (L' := [(2, .int (iI (n1 + 1))), (1, .int (iI c)), (0, .ref b)]) dX12_advance_230 rfl (by decide) rfl ?_
        refine tm_goto (tgt := 170) dX12_advance_233 (by decide) ?_
        exact tm_sub [0, 1, 2] rfl (ih _ (by rw [show (sS 20 ((σ.1 20) + 1) (sS 23 (((10 * (σ.1 23)) + v21) - 48) σ)).1 20 = (σ.1 20) + 1 from rs_eq]; omega) (n1 + 1) (sS 20 ((σ.1 20) + 1) (sS 23 (((10 * (σ.1 23)) + v21) - 48) σ)) (((Fr.rfl.trans (Fr.sub hF (by decide) (by decide) (by decide))).S (by decide)).S (by decide)) ((hR.S (by omega)).S (by omega)) (by rw [show (sS 20 ((σ.1 20) + 1) (sS 23 (((10 * (σ.1 23)) + v21) - 48) σ)).1 20 = (σ.1 20) + 1 from rs_eq]; omega) (fun q => absurd q (by omega)) (by rw [show (sS 20 ((σ.1 20) + 1) (sS 23 (((10 * (σ.1 23)) + v21) - 48) σ)).1 23 = ((10 * (σ.1 23)) + v21) - 48 from rs_o (by decide) (rs_eq)]; omega) (by rw [es2]; have z := dgp_s (s := sv σ0) (n := σ.1 20) (v := σ.1 23) (c := n1) (by omega) (by omega); unfold dgv at z; rw [if_pos (by omega)] at z; exact z.symm.trans hw) rfl)
theorem dX12_advance_39 : decode cX12_advance 39 = .ok (.aload_n 0, 1) := by decide +kernel
theorem dX12_advance_40 : decode cX12_advance 40 = .ok (.aload_n 0, 1) := by decide +kernel
theorem dX12_advance_41 : decode cX12_advance 41 = .ok (.getfield 210, 3) := by decide +kernel
theorem dX12_advance_44 : decode cX12_advance 44 = .ok (.putfield 216, 3) := by decide +kernel
theorem dX12_advance_47 : decode cX12_advance 47 = .ok (.aload_n 0, 1) := by decide +kernel
theorem dX12_advance_48 : decode cX12_advance 48 = .ok (.aload_n 0, 1) := by decide +kernel
theorem dX12_advance_49 : decode cX12_advance 49 = .ok (.getfield 210, 3) := by decide +kernel
theorem dX12_advance_52 : decode cX12_advance 52 = .ok (.invokevirtual 213, 3) := by decide +kernel
theorem dX12_advance_55 : decode cX12_advance 55 = .ok (.istore_n 1, 1) := by decide +kernel
theorem dX12_advance_56 : decode cX12_advance 56 = .ok (.aload_n 0, 1) := by decide +kernel
theorem dX12_advance_57 : decode cX12_advance 57 = .ok (.lconst 0, 1) := by decide +kernel
theorem dX12_advance_58 : decode cX12_advance 58 = .ok (.putfield 219, 3) := by decide +kernel
theorem dX12_advance_61 : decode cX12_advance 61 = .ok (.aload_n 0, 1) := by decide +kernel
theorem dX12_advance_62 : decode cX12_advance 62 = .ok (.iload_n 1, 1) := by decide +kernel
theorem dX12_advance_63 : decode cX12_advance 63 = .ok (.putfield 223, 3) := by decide +kernel
theorem dX12_advance_66 : decode cX12_advance 66 = .ok (.iload_n 1, 1) := by decide +kernel
theorem dX12_advance_67 : decode cX12_advance 67 = .ok (.ifCond .ge 11, 3) := by decide +kernel
theorem dX12_advance_78 : decode cX12_advance 78 = .ok (.iload_n 1, 1) := by decide +kernel
theorem dX12_advance_79 : decode cX12_advance 79 = .ok (.invokestatic 229, 3) := by decide +kernel
theorem dX12_advance_82 : decode cX12_advance 82 = .ok (.ifCond .eq 74, 3) := by decide +kernel
theorem dX12_advance_156 : decode cX12_advance 156 = .ok (.iload_n 1, 1) := by decide +kernel
theorem dX12_advance_157 : decode cX12_advance 157 = .ok (.invokestatic 232, 3) := by decide +kernel
theorem dX12_advance_160 : decode cX12_advance 160 = .ok (.ifCond .eq 94, 3) := by decide +kernel
theorem dX12_advance_254 : decode cX12_advance 254 = .ok (.aload_n 0, 1) := by decide +kernel
theorem dX12_advance_255 : decode cX12_advance 255 = .ok (.dup, 1) := by decide +kernel
theorem dX12_advance_256 : decode cX12_advance 256 = .ok (.getfield 210, 3) := by decide +kernel
theorem dX12_advance_259 : decode cX12_advance 259 = .ok (.iconst 1, 1) := by decide +kernel
theorem dX12_advance_260 : decode cX12_advance 260 = .ok (.iadd, 1) := by decide +kernel
theorem dX12_advance_261 : decode cX12_advance 261 = .ok (.putfield 210, 3) := by decide +kernel
theorem dX12_advance_264 : decode cX12_advance 264 = .ok (.aload_n 0, 1) := by decide +kernel
theorem dX12_advance_265 : decode cX12_advance 265 = .ok (.ldc 235, 2) := by decide +kernel
theorem dX12_advance_267 : decode cX12_advance 267 = .ok (.iload_n 1, 1) := by decide +kernel
theorem dX12_advance_268 : decode cX12_advance 268 = .ok (.invokevirtual 237, 3) := by decide +kernel
theorem dX12_advance_271 : decode cX12_advance 271 = .ok (.ifCond .lt 7, 3) := by decide +kernel
theorem dX12_advance_278 : decode cX12_advance 278 = .ok (.iconst 1, 1) := by decide +kernel
theorem dX12_advance_279 : decode cX12_advance 279 = .ok (.putfield 226, 3) := by decide +kernel
theorem dX12_advance_282 : decode cX12_advance 282 = .ok (.return_, 1) := by decide +kernel
theorem dX12_advance_274 : decode cX12_advance 274 = .ok (.iconst 4, 1) := by decide +kernel
theorem dX12_advance_275 : decode cX12_advance 275 = .ok (.goto 4, 3) := by decide +kernel
theorem dX12_advance_163 : decode cX12_advance 163 = .ok (.iconst 0, 1) := by decide +kernel
theorem dX12_advance_164 : decode cX12_advance 164 = .ok (.istore_n 2, 1) := by decide +kernel
theorem dX12_advance_165 : decode cX12_advance 165 = .ok (.aload_n 0, 1) := by decide +kernel
theorem dX12_advance_166 : decode cX12_advance 166 = .ok (.iconst 0, 1) := by decide +kernel
theorem dX12_advance_167 : decode cX12_advance 167 = .ok (.putfield 223, 3) := by decide +kernel
theorem dX12_advance_236 : decode cX12_advance 236 = .ok (.aload_n 0, 1) := by decide +kernel
theorem dX12_advance_237 : decode cX12_advance 237 = .ok (.iload_n 2, 1) := by decide +kernel
theorem dX12_advance_238 : decode cX12_advance 238 = .ok (.bipush 7, 2) := by decide +kernel
theorem dX12_advance_240 : decode cX12_advance 240 = .ok (.if_icmp .le 7, 3) := by decide +kernel
theorem dX12_advance_247 : decode cX12_advance 247 = .ok (.iconst 3, 1) := by decide +kernel
theorem dX12_advance_248 : decode cX12_advance 248 = .ok (.putfield 226, 3) := by decide +kernel
theorem dX12_advance_251 : decode cX12_advance 251 = .ok (.goto 31, 3) := by decide +kernel
theorem dX12_advance_243 : decode cX12_advance 243 = .ok (.iconst 1, 1) := by decide +kernel
theorem dX12_advance_244 : decode cX12_advance 244 = .ok (.goto 4, 3) := by decide +kernel
theorem dX12_advance_85 : decode cX12_advance 85 = .ok (.iconst 0, 1) := by decide +kernel
theorem dX12_advance_86 : decode cX12_advance 86 = .ok (.istore_n 2, 1) := by decide +kernel
theorem dX12_advance_138 : decode cX12_advance 138 = .ok (.aload_n 0, 1) := by decide +kernel
theorem dX12_advance_139 : decode cX12_advance 139 = .ok (.iload_n 2, 1) := by decide +kernel
theorem dX12_advance_140 : decode cX12_advance 140 = .ok (.bipush 6, 2) := by decide +kernel
theorem dX12_advance_142 : decode cX12_advance 142 = .ok (.if_icmp .le 7, 3) := by decide +kernel
theorem dX12_advance_149 : decode cX12_advance 149 = .ok (.iconst 2, 1) := by decide +kernel
theorem dX12_advance_150 : decode cX12_advance 150 = .ok (.putfield 226, 3) := by decide +kernel
theorem dX12_advance_153 : decode cX12_advance 153 = .ok (.goto 129, 3) := by decide +kernel
theorem dX12_advance_145 : decode cX12_advance 145 = .ok (.iconst 1, 1) := by decide +kernel
theorem dX12_advance_146 : decode cX12_advance 146 = .ok (.goto 4, 3) := by decide +kernel
theorem dX12_advance_70 : decode cX12_advance 70 = .ok (.aload_n 0, 1) := by decide +kernel
theorem dX12_advance_71 : decode cX12_advance 71 = .ok (.iconst 0, 1) := by decide +kernel
theorem dX12_advance_72 : decode cX12_advance 72 = .ok (.putfield 226, 3) := by decide +kernel
theorem dX12_advance_75 : decode cX12_advance 75 = .ok (.goto 207, 3) := by decide +kernel
set_option maxHeartbeats 4000000 in
set_option maxRecDepth 20000 in
theorem c_X12_advance (d : Nat) {b : Nat} {σ : MS} (hR : RG σ) (htl : (0 ≤ σ.1 20 ∧ σ.1 20 ≤ σ.1 21) ∧ σ.1 21 ≤ 1200) : Tm (d + 5) m_X12_advance 0 b σ [(0, .ref b)] [] (fun ro σ2 => ro = none ∧ (ADVm σ σ2) ∧ (Fr [19, 20, 22, 23] [] [24] σ σ2) ∧ (RG σ2) ∧ (TOK σ2) ∧ (σ.1 20 ≤ σ2.1 19)) := by
  refine tm_sub [0] rfl (l_adv0 (d + 3) (σ0 := σ) (p0 := (wsp (sv σ) (σ.1 20))) hR (by omega) (fun σ6 F2 R3 f4 f5 => ?_) _ σ Fr.rfl hR (by omega) rfl rfl)
  show Tm _ _ 39 b σ6 [(0, .ref b)] [] _
  have hA0 := f4
  have hA := f5
  have svA : sv σ6 = sv σ := sv_fr (show Fr [20] [] [] σ σ6 from (Fr.rfl.trans (Fr.sub F2 (by decide) (by decide) (by decide)))) (by decide) (by decide)
  have sA_ : σ6.1 21 = σ.1 21 := F2.1 21 (by decide)
  refine tm_aload_n dX12_advance_39 rfl 0 rfl ?_
  refine tm_aload_n dX12_advance_40 rfl 0 rfl ?_
  refine tm_getS (k := 20) (t := σ6.1 20) dX12_advance_41 (by decide) fl12_210 rfl (rfl) ?_
  have g7 := RG.s R3 20
  refine tm_putS (k := 19) (v := σ6.1 20) lay_12 dX12_advance_44 (by decide) fl12_216 rfl (tyX12_ok 19 (by decide)) rfl rfl rfl ?_
  refine tm_aload_n dX12_advance_47 rfl 0 rfl ?_
  refine tm_aload_n dX12_advance_48 rfl 0 rfl ?_
  refine tm_getS (k := 20) (t := σ6.1 20) dX12_advance_49 (by decide) fl12_210 rfl (rs_o (by decide) (rfl)) ?_
  have g8 := RG.s R3 20
  refine tm_callV (M := m_X12_advance) (pc := 52) (ix := 213) (M' := m_X12_see) (As := [.int (iI (σ6.1 20))]) (rest := []) dX12_advance_52 ok_X12_see im_X12_see se_X12_see ml12_213 np_X12_see rfl rfl (Nat.le_of_ble_eq_true rfl) (Nat.le_of_ble_eq_true rfl) rfl (c_X12_see (d + 3) (σ := (sS 19 (σ6.1 20) σ6)) (k := σ6.1 20) (R3.S (by omega)) (by omega) (by rw [show (sS 19 (σ6.1 20) σ6).1 21 = σ.1 21 from rs_o (by decide) (rs_F F2 (by decide) (rfl))]; omega)) (fun r9 σ10 hp => ?_)
  obtain ⟨v11, rfl, rfl, f12, f13, f14⟩ := hp
  show Tm _ _ 55 b (sS 19 (σ6.1 20) σ6) [(0, .ref b)] [.int (iI v11)] _
  have hc : v11 = sv σ (σ6.1 20) := by rw [f12]; exact congrFun svA _
  have hcr := f13
  have hcl := f14
  rw [show (sS 19 (σ6.1 20) σ6).1 21 = σ.1 21 from rs_o (by decide) (rs_F F2 (by decide) (rfl))] at hcl
  refine tm_istore_n (L' := [(1, .int (iI v11)), (0, .ref b)]) dX12_advance_55 rfl (by decide) rfl ?_
  refine tm_aload_n dX12_advance_56 rfl 1 rfl ?_
  refine tm_lconst (v := 0) dX12_advance_57 rfl ?_
  refine tm_putW lay_12 dX12_advance_58 fl12_219 ?_
  refine tm_aload_n dX12_advance_61 rfl 1 rfl ?_
  refine tm_iload_n dX12_advance_62 rfl 0 rfl ?_
  refine tm_putS (k := 23) (v := v11) lay_12 dX12_advance_63 (by decide) fl12_223 rfl (tyX12_ok 23 (by decide)) rfl rfl rfl ?_
  refine tm_iload_n dX12_advance_66 rfl 0 rfl ?_
  refine tm_if_ge (tgt := 78) dX12_advance_67 (by decide) ⟨by omega, by omega⟩ (fun h15 => ?_) (fun h15 => ?_)
  · refine tm_iload_n dX12_advance_78 rfl 0 rfl ?_
    refine tm_callS (M := m_X12_advance) (pc := 79) (ix := 229) (M' := m_X12_isLetter) (As := [.int (iI v11)]) (rest := []) dX12_advance_79 ok_X12_isLetter stt_X12_isLetter ml12_229 np_X12_isLetter rfl (Nat.le_of_ble_eq_true rfl) (Nat.le_of_ble_eq_true rfl) rfl (c_X12_isLetter (d + 2) (σ := (sS 23 v11 (sJ 24 0 (0) (sS 19 (σ6.1 20) σ6)))) (x := v11) (by omega)) (fun r16 σ17 hp => ?_)
    obtain ⟨v18, rfl, rfl, f19, f20⟩ := hp
    show Tm _ _ 82 b (sS 23 v11 (sJ 24 0 (0) (sS 19 (σ6.1 20) σ6))) [(1, .int (iI v11)), (0, .ref b)] [.int (iI v18)] _
    refine tm_if_eq (tgt := 156) dX12_advance_82 (by decide) ⟨by omega, by omega⟩ (fun h21 => ?_) (fun h21 => ?_)
    · refine tm_iload_n dX12_advance_156 rfl 0 rfl ?_
      refine tm_callS (M := m_X12_advance) (pc := 157) (ix := 232) (M' := m_X12_isDigit) (As := [.int (iI v11)]) (rest := []) dX12_advance_157 ok_X12_isDigit stt_X12_isDigit ml12_232 np_X12_isDigit rfl (Nat.le_of_ble_eq_true rfl) (Nat.le_of_ble_eq_true rfl) rfl (c_X12_isDigit (d + 2) (σ := (sS 23 v11 (sJ 24 0 (0) (sS 19 (σ6.1 20) σ6)))) (x := v11) (by omega)) (fun r22 σ23 hp => ?_)
      obtain ⟨v24, rfl, rfl, f25, f26⟩ := hp
      show Tm _ _ 160 b (sS 23 v11 (sJ 24 0 (0) (sS 19 (σ6.1 20) σ6))) [(1, .int (iI v11)), (0, .ref b)] [.int (iI v24)] _
      refine tm_if_eq (tgt := 254) dX12_advance_160 (by decide) ⟨by omega, by omega⟩ (fun h27 => ?_) (fun h27 => ?_)
      · refine tm_aload_n dX12_advance_254 rfl 1 rfl ?_
        refine tm_dup dX12_advance_255 rfl ?_
        refine tm_getS (k := 20) (t := σ6.1 20) dX12_advance_256 (by decide) fl12_210 rfl (rs_o (by decide) (rs_J (rs_o (by decide) (rfl)))) ?_
        have g28 := RG.s R3 20
        refine tm_iconst dX12_advance_259 ?_
        refine tm_iadd dX12_advance_260 ?_
        refine tm_putS (k := 20) (v := (σ6.1 20) + 1) lay_12 dX12_advance_261 (by decide) fl12_210 rfl (tyX12_ok 20 (by decide)) rfl rfl rfl ?_
        refine tm_aload_n dX12_advance_264 rfl 1 rfl ?_
        refine tm_signs (d := d + 1) (q := 0) (z := v11) rfl dX12_advance_265 dX12_advance_267 dX12_advance_268 rfl (by omega) (Nat.le_of_ble_eq_true rfl) ?_
        have hsg_ := sgZ_r (v11)
        refine tm_if_lt (tgt := 278) dX12_advance_271 (by decide) ⟨by omega, by omega⟩ (fun h29 => ?_) (fun h29 => ?_)
        · refine tm_iconst dX12_advance_278 ?_
          refine tm_putS (k := 22) (v := 1) lay_12 dX12_advance_279 (by decide) fl12_226 rfl (tyX12_ok 22 (by decide)) rfl rfl rfl ?_
          exact tm_vret rfl dX12_advance_282 (⟨rfl, ⟨by unfold tks advT; rw [← hA, show (sS 22 1 (sS 20 ((σ6.1 20) + 1) (sS 23 v11 (sJ 24 0 (0) (sS 19 (σ6.1 20) σ6))))).1 19 = σ6.1 20 from rs_o (by decide) (rs_o (by decide) (rs_o (by decide) (rs_J (rs_eq)))), show (sS 22 1 (sS 20 ((σ6.1 20) + 1) (sS 23 v11 (sJ 24 0 (0) (sS 19 (σ6.1 20) σ6))))).1 20 = (σ6.1 20) + 1 from rs_o (by decide) (rs_eq), show (sS 22 1 (sS 20 ((σ6.1 20) + 1) (sS 23 v11 (sJ 24 0 (0) (sS 19 (σ6.1 20) σ6))))).1 22 = 1 from rs_eq, show (sS 22 1 (sS 20 ((σ6.1 20) + 1) (sS 23 v11 (sJ 24 0 (0) (sS 19 (σ6.1 20) σ6))))).1 23 = v11 from rs_o (by decide) (rs_o (by decide) (rs_eq)), show (sS 22 1 (sS 20 ((σ6.1 20) + 1) (sS 23 v11 (sJ 24 0 (0) (sS 19 (σ6.1 20) σ6))))).2.2 24 0 = 0 from rj_S (rj_S (rj_S (rj_eq)))]; exact (advP_sgn hc (by omega) (by omega) (by omega) |>.trans (by rw [if_pos (by omega)])).symm, by unfold xs; rw [(show Fr [19, 20, 22, 23] [] [24] σ (sS 22 1 (sS 20 ((σ6.1 20) + 1) (sS 23 v11 (sJ 24 0 (0) (sS 19 (σ6.1 20) σ6))))) from ((((((Fr.rfl.trans (Fr.sub F2 (by decide) (by decide) (by decide))).S (by decide)).J (by decide)).S (by decide)).S (by decide)).S (by decide))).1 28 (by decide), (show Fr [19, 20, 22, 23] [] [24] σ (sS 22 1 (sS 20 ((σ6.1 20) + 1) (sS 23 v11 (sJ 24 0 (0) (sS 19 (σ6.1 20) σ6))))) from ((((((Fr.rfl.trans (Fr.sub F2 (by decide) (by decide) (by decide))).S (by decide)).J (by decide)).S (by decide)).S (by decide)).S (by decide))).1 29 (by decide), (show Fr [19, 20, 22, 23] [] [24] σ (sS 22 1 (sS 20 ((σ6.1 20) + 1) (sS 23 v11 (sJ 24 0 (0) (sS 19 (σ6.1 20) σ6))))) from ((((((Fr.rfl.trans (Fr.sub F2 (by decide) (by decide) (by decide))).S (by decide)).J (by decide)).S (by decide)).S (by decide)).S (by decide))).1 34 (by decide)], sv_fr (show Fr [19, 20, 22, 23] [] [24] σ (sS 22 1 (sS 20 ((σ6.1 20) + 1) (sS 23 v11 (sJ 24 0 (0) (sS 19 (σ6.1 20) σ6))))) from ((((((Fr.rfl.trans (Fr.sub F2 (by decide) (by decide) (by decide))).S (by decide)).J (by decide)).S (by decide)).S (by decide)).S (by decide))) (by decide) (by decide), srt_fr (show Fr [19, 20, 22, 23] [] [24] σ (sS 22 1 (sS 20 ((σ6.1 20) + 1) (sS 23 v11 (sJ 24 0 (0) (sS 19 (σ6.1 20) σ6))))) from ((((((Fr.rfl.trans (Fr.sub F2 (by decide) (by decide) (by decide))).S (by decide)).J (by decide)).S (by decide)).S (by decide)).S (by decide))) (by decide) (by decide) (by decide)⟩, ((((((Fr.rfl.trans (Fr.sub F2 (by decide) (by decide) (by decide))).S (by decide)).J (by decide)).S (by decide)).S (by decide)).S (by decide)), (((((R3.S (by omega)).J).S (by omega)).S (by omega)).S (by omega)), by unfold TOK; rw [show (sS 22 1 (sS 20 ((σ6.1 20) + 1) (sS 23 v11 (sJ 24 0 (0) (sS 19 (σ6.1 20) σ6))))).1 19 = σ6.1 20 from rs_o (by decide) (rs_o (by decide) (rs_o (by decide) (rs_J (rs_eq)))), show (sS 22 1 (sS 20 ((σ6.1 20) + 1) (sS 23 v11 (sJ 24 0 (0) (sS 19 (σ6.1 20) σ6))))).1 20 = (σ6.1 20) + 1 from rs_o (by decide) (rs_eq), show (sS 22 1 (sS 20 ((σ6.1 20) + 1) (sS 23 v11 (sJ 24 0 (0) (sS 19 (σ6.1 20) σ6))))).1 22 = 1 from rs_eq, show (sS 22 1 (sS 20 ((σ6.1 20) + 1) (sS 23 v11 (sJ 24 0 (0) (sS 19 (σ6.1 20) σ6))))).1 23 = v11 from rs_o (by decide) (rs_o (by decide) (rs_eq)), show (sS 22 1 (sS 20 ((σ6.1 20) + 1) (sS 23 v11 (sJ 24 0 (0) (sS 19 (σ6.1 20) σ6))))).1 21 = σ.1 21 from rs_o (by decide) (rs_o (by decide) (rs_o (by decide) (rs_J (rs_o (by decide) (rs_F F2 (by decide) (rfl))))))]; omega, by rw [show (sS 22 1 (sS 20 ((σ6.1 20) + 1) (sS 23 v11 (sJ 24 0 (0) (sS 19 (σ6.1 20) σ6))))).1 19 = σ6.1 20 from rs_o (by decide) (rs_o (by decide) (rs_o (by decide) (rs_J (rs_eq))))]; omega⟩)
        · refine tm_iconst dX12_advance_274 ?_
          refine tm_goto (tgt := 279) dX12_advance_275 (by decide) ?_
          refine tm_putS (k := 22) (v := 4) lay_12 dX12_advance_279 (by decide) fl12_226 rfl (tyX12_ok 22 (by decide)) rfl rfl rfl ?_
          exact tm_vret rfl dX12_advance_282 (⟨rfl, ⟨by unfold tks advT; rw [← hA, show (sS 22 4 (sS 20 ((σ6.1 20) + 1) (sS 23 v11 (sJ 24 0 (0) (sS 19 (σ6.1 20) σ6))))).1 19 = σ6.1 20 from rs_o (by decide) (rs_o (by decide) (rs_o (by decide) (rs_J (rs_eq)))), show (sS 22 4 (sS 20 ((σ6.1 20) + 1) (sS 23 v11 (sJ 24 0 (0) (sS 19 (σ6.1 20) σ6))))).1 20 = (σ6.1 20) + 1 from rs_o (by decide) (rs_eq), show (sS 22 4 (sS 20 ((σ6.1 20) + 1) (sS 23 v11 (sJ 24 0 (0) (sS 19 (σ6.1 20) σ6))))).1 22 = 4 from rs_eq, show (sS 22 4 (sS 20 ((σ6.1 20) + 1) (sS 23 v11 (sJ 24 0 (0) (sS 19 (σ6.1 20) σ6))))).1 23 = v11 from rs_o (by decide) (rs_o (by decide) (rs_eq)), show (sS 22 4 (sS 20 ((σ6.1 20) + 1) (sS 23 v11 (sJ 24 0 (0) (sS 19 (σ6.1 20) σ6))))).2.2 24 0 = 0 from rj_S (rj_S (rj_S (rj_eq)))]; exact (advP_sgn hc (by omega) (by omega) (by omega) |>.trans (by rw [if_neg (by omega)])).symm, by unfold xs; rw [(show Fr [19, 20, 22, 23] [] [24] σ (sS 22 4 (sS 20 ((σ6.1 20) + 1) (sS 23 v11 (sJ 24 0 (0) (sS 19 (σ6.1 20) σ6))))) from ((((((Fr.rfl.trans (Fr.sub F2 (by decide) (by decide) (by decide))).S (by decide)).J (by decide)).S (by decide)).S (by decide)).S (by decide))).1 28 (by decide), (show Fr [19, 20, 22, 23] [] [24] σ (sS 22 4 (sS 20 ((σ6.1 20) + 1) (sS 23 v11 (sJ 24 0 (0) (sS 19 (σ6.1 20) σ6))))) from ((((((Fr.rfl.trans (Fr.sub F2 (by decide) (by decide) (by decide))).S (by decide)).J (by decide)).S (by decide)).S (by decide)).S (by decide))).1 29 (by decide), (show Fr [19, 20, 22, 23] [] [24] σ (sS 22 4 (sS 20 ((σ6.1 20) + 1) (sS 23 v11 (sJ 24 0 (0) (sS 19 (σ6.1 20) σ6))))) from ((((((Fr.rfl.trans (Fr.sub F2 (by decide) (by decide) (by decide))).S (by decide)).J (by decide)).S (by decide)).S (by decide)).S (by decide))).1 34 (by decide)], sv_fr (show Fr [19, 20, 22, 23] [] [24] σ (sS 22 4 (sS 20 ((σ6.1 20) + 1) (sS 23 v11 (sJ 24 0 (0) (sS 19 (σ6.1 20) σ6))))) from ((((((Fr.rfl.trans (Fr.sub F2 (by decide) (by decide) (by decide))).S (by decide)).J (by decide)).S (by decide)).S (by decide)).S (by decide))) (by decide) (by decide), srt_fr (show Fr [19, 20, 22, 23] [] [24] σ (sS 22 4 (sS 20 ((σ6.1 20) + 1) (sS 23 v11 (sJ 24 0 (0) (sS 19 (σ6.1 20) σ6))))) from ((((((Fr.rfl.trans (Fr.sub F2 (by decide) (by decide) (by decide))).S (by decide)).J (by decide)).S (by decide)).S (by decide)).S (by decide))) (by decide) (by decide) (by decide)⟩, ((((((Fr.rfl.trans (Fr.sub F2 (by decide) (by decide) (by decide))).S (by decide)).J (by decide)).S (by decide)).S (by decide)).S (by decide)), (((((R3.S (by omega)).J).S (by omega)).S (by omega)).S (by omega)), by unfold TOK; rw [show (sS 22 4 (sS 20 ((σ6.1 20) + 1) (sS 23 v11 (sJ 24 0 (0) (sS 19 (σ6.1 20) σ6))))).1 19 = σ6.1 20 from rs_o (by decide) (rs_o (by decide) (rs_o (by decide) (rs_J (rs_eq)))), show (sS 22 4 (sS 20 ((σ6.1 20) + 1) (sS 23 v11 (sJ 24 0 (0) (sS 19 (σ6.1 20) σ6))))).1 20 = (σ6.1 20) + 1 from rs_o (by decide) (rs_eq), show (sS 22 4 (sS 20 ((σ6.1 20) + 1) (sS 23 v11 (sJ 24 0 (0) (sS 19 (σ6.1 20) σ6))))).1 22 = 4 from rs_eq, show (sS 22 4 (sS 20 ((σ6.1 20) + 1) (sS 23 v11 (sJ 24 0 (0) (sS 19 (σ6.1 20) σ6))))).1 23 = v11 from rs_o (by decide) (rs_o (by decide) (rs_eq)), show (sS 22 4 (sS 20 ((σ6.1 20) + 1) (sS 23 v11 (sJ 24 0 (0) (sS 19 (σ6.1 20) σ6))))).1 21 = σ.1 21 from rs_o (by decide) (rs_o (by decide) (rs_o (by decide) (rs_J (rs_o (by decide) (rs_F F2 (by decide) (rfl))))))]; omega, by rw [show (sS 22 4 (sS 20 ((σ6.1 20) + 1) (sS 23 v11 (sJ 24 0 (0) (sS 19 (σ6.1 20) σ6))))).1 19 = σ6.1 20 from rs_o (by decide) (rs_o (by decide) (rs_o (by decide) (rs_J (rs_eq))))]; omega⟩)
      · refine tm_iconst dX12_advance_163 ?_
        refine tm_istore_n (L' := [(2, .int (iI 0)), (1, .int (iI v11)), (0, .ref b)]) dX12_advance_164 rfl (by decide) rfl ?_
        refine tm_aload_n dX12_advance_165 rfl 2 rfl ?_
        refine tm_iconst dX12_advance_166 ?_
        refine tm_putS (k := 23) (v := 0) lay_12 dX12_advance_167 (by decide) fl12_223 rfl (tyX12_ok 23 (by decide)) rfl rfl rfl ?_
        refine tm_sub [0, 1, 2] rfl (l_adv2 (d + 2) (σ0 := (sS 23 0 (sS 23 v11 (sJ 24 0 (0) (sS 19 (σ6.1 20) σ6))))) (c := v11) (R0 := (dgp (sv σ) (σ6.1 20) 0 0)) ((((R3.S (by omega)).J).S (by omega)).S (by omega)) (by rw [show (sS 23 0 (sS 23 v11 (sJ 24 0 (0) (sS 19 (σ6.1 20) σ6)))).1 20 = σ6.1 20 from rs_o (by decide) (rs_o (by decide) (rs_J (rs_o (by decide) (rfl)))), show (sS 23 0 (sS 23 v11 (sJ 24 0 (0) (sS 19 (σ6.1 20) σ6)))).1 21 = σ.1 21 from rs_o (by decide) (rs_o (by decide) (rs_J (rs_o (by decide) (rs_F F2 (by decide) (rfl)))))]; omega) (by omega) (fun n137 σ38 F32 R33 f34 f35 f36 => ?_) _ (0) (sS 23 0 (sS 23 v11 (sJ 24 0 (0) (sS 19 (σ6.1 20) σ6)))) Fr.rfl ((((R3.S (by omega)).J).S (by omega)).S (by omega)) (by rw [show (sS 23 0 (sS 23 v11 (sJ 24 0 (0) (sS 19 (σ6.1 20) σ6)))).1 20 = σ6.1 20 from rs_o (by decide) (rs_o (by decide) (rs_J (rs_o (by decide) (rfl)))), show (sS 23 0 (sS 23 v11 (sJ 24 0 (0) (sS 19 (σ6.1 20) σ6)))).1 21 = σ.1 21 from rs_o (by decide) (rs_o (by decide) (rs_J (rs_o (by decide) (rs_F F2 (by decide) (rfl)))))]; omega) (fun _ => by rw [show sv (sS 23 0 (sS 23 v11 (sJ 24 0 (0) (sS 19 (σ6.1 20) σ6)))) = sv σ from sv_fr (show Fr [19, 20, 23] [] [24] σ (sS 23 0 (sS 23 v11 (sJ 24 0 (0) (sS 19 (σ6.1 20) σ6)))) from (((((Fr.rfl.trans (Fr.sub F2 (by decide) (by decide) (by decide))).S (by decide)).J (by decide)).S (by decide)).S (by decide))) (by decide) (by decide)]; exact hc) (by rw [show (sS 23 0 (sS 23 v11 (sJ 24 0 (0) (sS 19 (σ6.1 20) σ6)))).1 23 = 0 from rs_eq]; omega) (by rw [show sv (sS 23 0 (sS 23 v11 (sJ 24 0 (0) (sS 19 (σ6.1 20) σ6)))) = sv σ from sv_fr (show Fr [19, 20, 23] [] [24] σ (sS 23 0 (sS 23 v11 (sJ 24 0 (0) (sS 19 (σ6.1 20) σ6)))) from (((((Fr.rfl.trans (Fr.sub F2 (by decide) (by decide) (by decide))).S (by decide)).J (by decide)).S (by decide)).S (by decide))) (by decide) (by decide)]; rfl) rfl)
        show Tm _ _ 236 b σ38 [(2, .int (iI n137)), (1, .int (iI v11)), (0, .ref b)] [] _
        have hB0 := f34
        rw [show (sS 23 0 (sS 23 v11 (sJ 24 0 (0) (sS 19 (σ6.1 20) σ6)))).1 20 = σ6.1 20 from rs_o (by decide) (rs_o (by decide) (rs_J (rs_o (by decide) (rfl)))), show (sS 23 0 (sS 23 v11 (sJ 24 0 (0) (sS 19 (σ6.1 20) σ6)))).1 21 = σ.1 21 from rs_o (by decide) (rs_o (by decide) (rs_J (rs_o (by decide) (rs_F F2 (by decide) (rfl)))))] at hB0
        have hB := f36
        have hBv := f35
        refine tm_aload_n dX12_advance_236 rfl 2 rfl ?_
        refine tm_iload_n dX12_advance_237 rfl 0 rfl ?_
        refine tm_bipush dX12_advance_238 (by decide) ?_
        refine tm_icmp_le (tgt := 247) dX12_advance_240 (by decide) ⟨by omega, by omega⟩ ⟨by decide, by decide⟩ (fun h39 => ?_) (fun h39 => ?_)
        · refine tm_iconst dX12_advance_247 ?_
          refine tm_putS (k := 22) (v := 3) lay_12 dX12_advance_248 (by decide) fl12_226 rfl (tyX12_ok 22 (by decide)) rfl rfl rfl ?_
          refine tm_goto (tgt := 282) dX12_advance_251 (by decide) ?_
          exact tm_vret rfl dX12_advance_282 (⟨rfl, ⟨by unfold tks advT; rw [← hA, show (sS 22 3 σ38).1 19 = σ6.1 20 from rs_o (by decide) (rs_F F32 (by decide) (rs_o (by decide) (rs_o (by decide) (rs_J (rs_eq))))), show (sS 22 3 σ38).1 20 = σ38.1 20 from rs_o (by decide) (rfl), show (sS 22 3 σ38).1 22 = 3 from rs_eq, show (sS 22 3 σ38).1 23 = σ38.1 23 from rs_o (by decide) (rfl), show (sS 22 3 σ38).2.2 24 0 = 0 from rj_S (rj_F F32 (by decide) (rj_S (rj_S (rj_eq))))]; exact (advP_dig hc (by omega) (by omega) (by omega) (hB) |>.trans (by rw [if_neg (by omega)])).symm, by unfold xs; rw [(show Fr [19, 20, 22, 23] [] [24] σ (sS 22 3 σ38) from (((((((Fr.rfl.trans (Fr.sub F2 (by decide) (by decide) (by decide))).S (by decide)).J (by decide)).S (by decide)).S (by decide)).trans (Fr.sub F32 (by decide) (by decide) (by decide))).S (by decide))).1 28 (by decide), (show Fr [19, 20, 22, 23] [] [24] σ (sS 22 3 σ38) from (((((((Fr.rfl.trans (Fr.sub F2 (by decide) (by decide) (by decide))).S (by decide)).J (by decide)).S (by decide)).S (by decide)).trans (Fr.sub F32 (by decide) (by decide) (by decide))).S (by decide))).1 29 (by decide), (show Fr [19, 20, 22, 23] [] [24] σ (sS 22 3 σ38) from (((((((Fr.rfl.trans (Fr.sub F2 (by decide) (by decide) (by decide))).S (by decide)).J (by decide)).S (by decide)).S (by decide)).trans (Fr.sub F32 (by decide) (by decide) (by decide))).S (by decide))).1 34 (by decide)], sv_fr (show Fr [19, 20, 22, 23] [] [24] σ (sS 22 3 σ38) from (((((((Fr.rfl.trans (Fr.sub F2 (by decide) (by decide) (by decide))).S (by decide)).J (by decide)).S (by decide)).S (by decide)).trans (Fr.sub F32 (by decide) (by decide) (by decide))).S (by decide))) (by decide) (by decide), srt_fr (show Fr [19, 20, 22, 23] [] [24] σ (sS 22 3 σ38) from (((((((Fr.rfl.trans (Fr.sub F2 (by decide) (by decide) (by decide))).S (by decide)).J (by decide)).S (by decide)).S (by decide)).trans (Fr.sub F32 (by decide) (by decide) (by decide))).S (by decide))) (by decide) (by decide) (by decide)⟩, (((((((Fr.rfl.trans (Fr.sub F2 (by decide) (by decide) (by decide))).S (by decide)).J (by decide)).S (by decide)).S (by decide)).trans (Fr.sub F32 (by decide) (by decide) (by decide))).S (by decide)), (R33.S (by omega)), by unfold TOK; rw [show (sS 22 3 σ38).1 19 = σ6.1 20 from rs_o (by decide) (rs_F F32 (by decide) (rs_o (by decide) (rs_o (by decide) (rs_J (rs_eq))))), show (sS 22 3 σ38).1 20 = σ38.1 20 from rs_o (by decide) (rfl), show (sS 22 3 σ38).1 22 = 3 from rs_eq, show (sS 22 3 σ38).1 23 = σ38.1 23 from rs_o (by decide) (rfl), show (sS 22 3 σ38).1 21 = σ.1 21 from rs_o (by decide) (rs_F F32 (by decide) (rs_o (by decide) (rs_o (by decide) (rs_J (rs_o (by decide) (rs_F F2 (by decide) (rfl)))))))]; omega, by rw [show (sS 22 3 σ38).1 19 = σ6.1 20 from rs_o (by decide) (rs_F F32 (by decide) (rs_o (by decide) (rs_o (by decide) (rs_J (rs_eq)))))]; omega⟩)
        · refine tm_iconst dX12_advance_243 ?_
          refine tm_goto (tgt := 248) dX12_advance_244 (by decide) ?_
          refine tm_putS (k := 22) (v := 1) lay_12 dX12_advance_248 (by decide) fl12_226 rfl (tyX12_ok 22 (by decide)) rfl rfl rfl ?_
          refine tm_goto (tgt := 282) dX12_advance_251 (by decide) ?_
          exact tm_vret rfl dX12_advance_282 (⟨rfl, ⟨by unfold tks advT; rw [← hA, show (sS 22 1 σ38).1 19 = σ6.1 20 from rs_o (by decide) (rs_F F32 (by decide) (rs_o (by decide) (rs_o (by decide) (rs_J (rs_eq))))), show (sS 22 1 σ38).1 20 = σ38.1 20 from rs_o (by decide) (rfl), show (sS 22 1 σ38).1 22 = 1 from rs_eq, show (sS 22 1 σ38).1 23 = σ38.1 23 from rs_o (by decide) (rfl), show (sS 22 1 σ38).2.2 24 0 = 0 from rj_S (rj_F F32 (by decide) (rj_S (rj_S (rj_eq))))]; exact (advP_dig hc (by omega) (by omega) (by omega) (hB) |>.trans (by rw [if_pos (by omega)])).symm, by unfold xs; rw [(show Fr [19, 20, 22, 23] [] [24] σ (sS 22 1 σ38) from (((((((Fr.rfl.trans (Fr.sub F2 (by decide) (by decide) (by decide))).S (by decide)).J (by decide)).S (by decide)).S (by decide)).trans (Fr.sub F32 (by decide) (by decide) (by decide))).S (by decide))).1 28 (by decide), (show Fr [19, 20, 22, 23] [] [24] σ (sS 22 1 σ38) from (((((((Fr.rfl.trans (Fr.sub F2 (by decide) (by decide) (by decide))).S (by decide)).J (by decide)).S (by decide)).S (by decide)).trans (Fr.sub F32 (by decide) (by decide) (by decide))).S (by decide))).1 29 (by decide), (show Fr [19, 20, 22, 23] [] [24] σ (sS 22 1 σ38) from (((((((Fr.rfl.trans (Fr.sub F2 (by decide) (by decide) (by decide))).S (by decide)).J (by decide)).S (by decide)).S (by decide)).trans (Fr.sub F32 (by decide) (by decide) (by decide))).S (by decide))).1 34 (by decide)], sv_fr (show Fr [19, 20, 22, 23] [] [24] σ (sS 22 1 σ38) from (((((((Fr.rfl.trans (Fr.sub F2 (by decide) (by decide) (by decide))).S (by decide)).J (by decide)).S (by decide)).S (by decide)).trans (Fr.sub F32 (by decide) (by decide) (by decide))).S (by decide))) (by decide) (by decide), srt_fr (show Fr [19, 20, 22, 23] [] [24] σ (sS 22 1 σ38) from (((((((Fr.rfl.trans (Fr.sub F2 (by decide) (by decide) (by decide))).S (by decide)).J (by decide)).S (by decide)).S (by decide)).trans (Fr.sub F32 (by decide) (by decide) (by decide))).S (by decide))) (by decide) (by decide) (by decide)⟩, (((((((Fr.rfl.trans (Fr.sub F2 (by decide) (by decide) (by decide))).S (by decide)).J (by decide)).S (by decide)).S (by decide)).trans (Fr.sub F32 (by decide) (by decide) (by decide))).S (by decide)), (R33.S (by omega)), by unfold TOK; rw [show (sS 22 1 σ38).1 19 = σ6.1 20 from rs_o (by decide) (rs_F F32 (by decide) (rs_o (by decide) (rs_o (by decide) (rs_J (rs_eq))))), show (sS 22 1 σ38).1 20 = σ38.1 20 from rs_o (by decide) (rfl), show (sS 22 1 σ38).1 22 = 1 from rs_eq, show (sS 22 1 σ38).1 23 = σ38.1 23 from rs_o (by decide) (rfl), show (sS 22 1 σ38).1 21 = σ.1 21 from rs_o (by decide) (rs_F F32 (by decide) (rs_o (by decide) (rs_o (by decide) (rs_J (rs_o (by decide) (rs_F F2 (by decide) (rfl)))))))]; omega, by rw [show (sS 22 1 σ38).1 19 = σ6.1 20 from rs_o (by decide) (rs_F F32 (by decide) (rs_o (by decide) (rs_o (by decide) (rs_J (rs_eq)))))]; omega⟩)
    · refine tm_iconst dX12_advance_85 ?_
      refine tm_istore_n (L' := [(2, .int (iI 0)), (1, .int (iI v11)), (0, .ref b)]) dX12_advance_86 rfl (by decide) rfl ?_
      refine tm_sub [0, 1, 2] rfl (l_adv1 (d + 2) (σ0 := (sS 23 v11 (sJ 24 0 (0) (sS 19 (σ6.1 20) σ6)))) (c := v11) (R0 := (ltp (sv σ) (σ6.1 20) 0 0)) (((R3.S (by omega)).J).S (by omega)) (by rw [show (sS 23 v11 (sJ 24 0 (0) (sS 19 (σ6.1 20) σ6))).1 20 = σ6.1 20 from rs_o (by decide) (rs_J (rs_o (by decide) (rfl))), show (sS 23 v11 (sJ 24 0 (0) (sS 19 (σ6.1 20) σ6))).1 21 = σ.1 21 from rs_o (by decide) (rs_J (rs_o (by decide) (rs_F F2 (by decide) (rfl))))]; omega) (by omega) (fun n146 σ47 F42 R43 f44 f45 => ?_) _ (0) (sS 23 v11 (sJ 24 0 (0) (sS 19 (σ6.1 20) σ6))) Fr.rfl (((R3.S (by omega)).J).S (by omega)) (by rw [show (sS 23 v11 (sJ 24 0 (0) (sS 19 (σ6.1 20) σ6))).1 20 = σ6.1 20 from rs_o (by decide) (rs_J (rs_o (by decide) (rfl))), show (sS 23 v11 (sJ 24 0 (0) (sS 19 (σ6.1 20) σ6))).1 21 = σ.1 21 from rs_o (by decide) (rs_J (rs_o (by decide) (rs_F F2 (by decide) (rfl))))]; omega) (fun _ => by rw [show sv (sS 23 v11 (sJ 24 0 (0) (sS 19 (σ6.1 20) σ6))) = sv σ from sv_fr (show Fr [19, 20, 23] [] [24] σ (sS 23 v11 (sJ 24 0 (0) (sS 19 (σ6.1 20) σ6))) from ((((Fr.rfl.trans (Fr.sub F2 (by decide) (by decide) (by decide))).S (by decide)).J (by decide)).S (by decide))) (by decide) (by decide)]; exact hc) (by rw [show sv (sS 23 v11 (sJ 24 0 (0) (sS 19 (σ6.1 20) σ6))) = sv σ from sv_fr (show Fr [19, 20, 23] [] [24] σ (sS 23 v11 (sJ 24 0 (0) (sS 19 (σ6.1 20) σ6))) from ((((Fr.rfl.trans (Fr.sub F2 (by decide) (by decide) (by decide))).S (by decide)).J (by decide)).S (by decide))) (by decide) (by decide)]; rfl) rfl)
      show Tm _ _ 138 b σ47 [(2, .int (iI n146)), (1, .int (iI v11)), (0, .ref b)] [] _
      have hB0 := f44
      rw [show (sS 23 v11 (sJ 24 0 (0) (sS 19 (σ6.1 20) σ6))).1 20 = σ6.1 20 from rs_o (by decide) (rs_J (rs_o (by decide) (rfl))), show (sS 23 v11 (sJ 24 0 (0) (sS 19 (σ6.1 20) σ6))).1 21 = σ.1 21 from rs_o (by decide) (rs_J (rs_o (by decide) (rs_F F2 (by decide) (rfl))))] at hB0
      have hB := f45
      refine tm_aload_n dX12_advance_138 rfl 2 rfl ?_
      refine tm_iload_n dX12_advance_139 rfl 0 rfl ?_
      refine tm_bipush dX12_advance_140 (by decide) ?_
      refine tm_icmp_le (tgt := 149) dX12_advance_142 (by decide) ⟨by omega, by omega⟩ ⟨by decide, by decide⟩ (fun h48 => ?_) (fun h48 => ?_)
      · refine tm_iconst dX12_advance_149 ?_
        refine tm_putS (k := 22) (v := 2) lay_12 dX12_advance_150 (by decide) fl12_226 rfl (tyX12_ok 22 (by decide)) rfl rfl rfl ?_
        refine tm_goto (tgt := 282) dX12_advance_153 (by decide) ?_
        exact tm_vret rfl dX12_advance_282 (⟨rfl, ⟨by unfold tks advT; rw [← hA, show (sS 22 2 σ47).1 19 = σ6.1 20 from rs_o (by decide) (rs_F F42 (by decide) (rs_o (by decide) (rs_J (rs_eq)))), show (sS 22 2 σ47).1 20 = σ47.1 20 from rs_o (by decide) (rfl), show (sS 22 2 σ47).1 22 = 2 from rs_eq, show (sS 22 2 σ47).1 23 = v11 from rs_o (by decide) (rs_F F42 (by decide) (rs_eq)), show (sS 22 2 σ47).2.2 24 0 = σ47.2.2 24 0 from rj_S (rfl)]; exact (advP_let hc (by omega) (by omega) (hB) |>.trans (by rw [if_neg (by omega)])).symm, by unfold xs; rw [(show Fr [19, 20, 22, 23] [] [24] σ (sS 22 2 σ47) from ((((((Fr.rfl.trans (Fr.sub F2 (by decide) (by decide) (by decide))).S (by decide)).J (by decide)).S (by decide)).trans (Fr.sub F42 (by decide) (by decide) (by decide))).S (by decide))).1 28 (by decide), (show Fr [19, 20, 22, 23] [] [24] σ (sS 22 2 σ47) from ((((((Fr.rfl.trans (Fr.sub F2 (by decide) (by decide) (by decide))).S (by decide)).J (by decide)).S (by decide)).trans (Fr.sub F42 (by decide) (by decide) (by decide))).S (by decide))).1 29 (by decide), (show Fr [19, 20, 22, 23] [] [24] σ (sS 22 2 σ47) from ((((((Fr.rfl.trans (Fr.sub F2 (by decide) (by decide) (by decide))).S (by decide)).J (by decide)).S (by decide)).trans (Fr.sub F42 (by decide) (by decide) (by decide))).S (by decide))).1 34 (by decide)], sv_fr (show Fr [19, 20, 22, 23] [] [24] σ (sS 22 2 σ47) from ((((((Fr.rfl.trans (Fr.sub F2 (by decide) (by decide) (by decide))).S (by decide)).J (by decide)).S (by decide)).trans (Fr.sub F42 (by decide) (by decide) (by decide))).S (by decide))) (by decide) (by decide), srt_fr (show Fr [19, 20, 22, 23] [] [24] σ (sS 22 2 σ47) from ((((((Fr.rfl.trans (Fr.sub F2 (by decide) (by decide) (by decide))).S (by decide)).J (by decide)).S (by decide)).trans (Fr.sub F42 (by decide) (by decide) (by decide))).S (by decide))) (by decide) (by decide) (by decide)⟩, ((((((Fr.rfl.trans (Fr.sub F2 (by decide) (by decide) (by decide))).S (by decide)).J (by decide)).S (by decide)).trans (Fr.sub F42 (by decide) (by decide) (by decide))).S (by decide)), (R43.S (by omega)), by unfold TOK; rw [show (sS 22 2 σ47).1 19 = σ6.1 20 from rs_o (by decide) (rs_F F42 (by decide) (rs_o (by decide) (rs_J (rs_eq)))), show (sS 22 2 σ47).1 20 = σ47.1 20 from rs_o (by decide) (rfl), show (sS 22 2 σ47).1 22 = 2 from rs_eq, show (sS 22 2 σ47).1 23 = v11 from rs_o (by decide) (rs_F F42 (by decide) (rs_eq)), show (sS 22 2 σ47).1 21 = σ.1 21 from rs_o (by decide) (rs_F F42 (by decide) (rs_o (by decide) (rs_J (rs_o (by decide) (rs_F F2 (by decide) (rfl))))))]; omega, by rw [show (sS 22 2 σ47).1 19 = σ6.1 20 from rs_o (by decide) (rs_F F42 (by decide) (rs_o (by decide) (rs_J (rs_eq))))]; omega⟩)
      · refine tm_iconst dX12_advance_145 ?_
        refine tm_goto (tgt := 150) dX12_advance_146 (by decide) ?_
        refine tm_putS (k := 22) (v := 1) lay_12 dX12_advance_150 (by decide) fl12_226 rfl (tyX12_ok 22 (by decide)) rfl rfl rfl ?_
        refine tm_goto (tgt := 282) dX12_advance_153 (by decide) ?_
        exact tm_vret rfl dX12_advance_282 (⟨rfl, ⟨by unfold tks advT; rw [← hA, show (sS 22 1 σ47).1 19 = σ6.1 20 from rs_o (by decide) (rs_F F42 (by decide) (rs_o (by decide) (rs_J (rs_eq)))), show (sS 22 1 σ47).1 20 = σ47.1 20 from rs_o (by decide) (rfl), show (sS 22 1 σ47).1 22 = 1 from rs_eq, show (sS 22 1 σ47).1 23 = v11 from rs_o (by decide) (rs_F F42 (by decide) (rs_eq)), show (sS 22 1 σ47).2.2 24 0 = σ47.2.2 24 0 from rj_S (rfl)]; exact (advP_let hc (by omega) (by omega) (hB) |>.trans (by rw [if_pos (by omega)])).symm, by unfold xs; rw [(show Fr [19, 20, 22, 23] [] [24] σ (sS 22 1 σ47) from ((((((Fr.rfl.trans (Fr.sub F2 (by decide) (by decide) (by decide))).S (by decide)).J (by decide)).S (by decide)).trans (Fr.sub F42 (by decide) (by decide) (by decide))).S (by decide))).1 28 (by decide), (show Fr [19, 20, 22, 23] [] [24] σ (sS 22 1 σ47) from ((((((Fr.rfl.trans (Fr.sub F2 (by decide) (by decide) (by decide))).S (by decide)).J (by decide)).S (by decide)).trans (Fr.sub F42 (by decide) (by decide) (by decide))).S (by decide))).1 29 (by decide), (show Fr [19, 20, 22, 23] [] [24] σ (sS 22 1 σ47) from ((((((Fr.rfl.trans (Fr.sub F2 (by decide) (by decide) (by decide))).S (by decide)).J (by decide)).S (by decide)).trans (Fr.sub F42 (by decide) (by decide) (by decide))).S (by decide))).1 34 (by decide)], sv_fr (show Fr [19, 20, 22, 23] [] [24] σ (sS 22 1 σ47) from ((((((Fr.rfl.trans (Fr.sub F2 (by decide) (by decide) (by decide))).S (by decide)).J (by decide)).S (by decide)).trans (Fr.sub F42 (by decide) (by decide) (by decide))).S (by decide))) (by decide) (by decide), srt_fr (show Fr [19, 20, 22, 23] [] [24] σ (sS 22 1 σ47) from ((((((Fr.rfl.trans (Fr.sub F2 (by decide) (by decide) (by decide))).S (by decide)).J (by decide)).S (by decide)).trans (Fr.sub F42 (by decide) (by decide) (by decide))).S (by decide))) (by decide) (by decide) (by decide)⟩, ((((((Fr.rfl.trans (Fr.sub F2 (by decide) (by decide) (by decide))).S (by decide)).J (by decide)).S (by decide)).trans (Fr.sub F42 (by decide) (by decide) (by decide))).S (by decide)), (R43.S (by omega)), by unfold TOK; rw [show (sS 22 1 σ47).1 19 = σ6.1 20 from rs_o (by decide) (rs_F F42 (by decide) (rs_o (by decide) (rs_J (rs_eq)))), show (sS 22 1 σ47).1 20 = σ47.1 20 from rs_o (by decide) (rfl), show (sS 22 1 σ47).1 22 = 1 from rs_eq, show (sS 22 1 σ47).1 23 = v11 from rs_o (by decide) (rs_F F42 (by decide) (rs_eq)), show (sS 22 1 σ47).1 21 = σ.1 21 from rs_o (by decide) (rs_F F42 (by decide) (rs_o (by decide) (rs_J (rs_o (by decide) (rs_F F2 (by decide) (rfl))))))]; omega, by rw [show (sS 22 1 σ47).1 19 = σ6.1 20 from rs_o (by decide) (rs_F F42 (by decide) (rs_o (by decide) (rs_J (rs_eq))))]; omega⟩)
  · refine tm_aload_n dX12_advance_70 rfl 1 rfl ?_
    refine tm_iconst dX12_advance_71 ?_
    refine tm_putS (k := 22) (v := 0) lay_12 dX12_advance_72 (by decide) fl12_226 rfl (tyX12_ok 22 (by decide)) rfl rfl rfl ?_
    refine tm_goto (tgt := 282) dX12_advance_75 (by decide) ?_
    exact tm_vret rfl dX12_advance_282 (⟨rfl, ⟨by unfold tks advT; rw [← hA, show (sS 22 0 (sS 23 v11 (sJ 24 0 (0) (sS 19 (σ6.1 20) σ6)))).1 19 = σ6.1 20 from rs_o (by decide) (rs_o (by decide) (rs_J (rs_eq))), show (sS 22 0 (sS 23 v11 (sJ 24 0 (0) (sS 19 (σ6.1 20) σ6)))).1 20 = σ6.1 20 from rs_o (by decide) (rs_o (by decide) (rs_J (rs_o (by decide) (rfl)))), show (sS 22 0 (sS 23 v11 (sJ 24 0 (0) (sS 19 (σ6.1 20) σ6)))).1 22 = 0 from rs_eq, show (sS 22 0 (sS 23 v11 (sJ 24 0 (0) (sS 19 (σ6.1 20) σ6)))).1 23 = v11 from rs_o (by decide) (rs_eq), show (sS 22 0 (sS 23 v11 (sJ 24 0 (0) (sS 19 (σ6.1 20) σ6)))).2.2 24 0 = 0 from rj_S (rj_S (rj_eq))]; exact (advP_end hc (by omega)).symm, by unfold xs; rw [(show Fr [19, 20, 22, 23] [] [24] σ (sS 22 0 (sS 23 v11 (sJ 24 0 (0) (sS 19 (σ6.1 20) σ6)))) from (((((Fr.rfl.trans (Fr.sub F2 (by decide) (by decide) (by decide))).S (by decide)).J (by decide)).S (by decide)).S (by decide))).1 28 (by decide), (show Fr [19, 20, 22, 23] [] [24] σ (sS 22 0 (sS 23 v11 (sJ 24 0 (0) (sS 19 (σ6.1 20) σ6)))) from (((((Fr.rfl.trans (Fr.sub F2 (by decide) (by decide) (by decide))).S (by decide)).J (by decide)).S (by decide)).S (by decide))).1 29 (by decide), (show Fr [19, 20, 22, 23] [] [24] σ (sS 22 0 (sS 23 v11 (sJ 24 0 (0) (sS 19 (σ6.1 20) σ6)))) from (((((Fr.rfl.trans (Fr.sub F2 (by decide) (by decide) (by decide))).S (by decide)).J (by decide)).S (by decide)).S (by decide))).1 34 (by decide)], sv_fr (show Fr [19, 20, 22, 23] [] [24] σ (sS 22 0 (sS 23 v11 (sJ 24 0 (0) (sS 19 (σ6.1 20) σ6)))) from (((((Fr.rfl.trans (Fr.sub F2 (by decide) (by decide) (by decide))).S (by decide)).J (by decide)).S (by decide)).S (by decide))) (by decide) (by decide), srt_fr (show Fr [19, 20, 22, 23] [] [24] σ (sS 22 0 (sS 23 v11 (sJ 24 0 (0) (sS 19 (σ6.1 20) σ6)))) from (((((Fr.rfl.trans (Fr.sub F2 (by decide) (by decide) (by decide))).S (by decide)).J (by decide)).S (by decide)).S (by decide))) (by decide) (by decide) (by decide)⟩, (((((Fr.rfl.trans (Fr.sub F2 (by decide) (by decide) (by decide))).S (by decide)).J (by decide)).S (by decide)).S (by decide)), ((((R3.S (by omega)).J).S (by omega)).S (by omega)), by unfold TOK; rw [show (sS 22 0 (sS 23 v11 (sJ 24 0 (0) (sS 19 (σ6.1 20) σ6)))).1 19 = σ6.1 20 from rs_o (by decide) (rs_o (by decide) (rs_J (rs_eq))), show (sS 22 0 (sS 23 v11 (sJ 24 0 (0) (sS 19 (σ6.1 20) σ6)))).1 20 = σ6.1 20 from rs_o (by decide) (rs_o (by decide) (rs_J (rs_o (by decide) (rfl)))), show (sS 22 0 (sS 23 v11 (sJ 24 0 (0) (sS 19 (σ6.1 20) σ6)))).1 22 = 0 from rs_eq, show (sS 22 0 (sS 23 v11 (sJ 24 0 (0) (sS 19 (σ6.1 20) σ6)))).1 23 = v11 from rs_o (by decide) (rs_eq), show (sS 22 0 (sS 23 v11 (sJ 24 0 (0) (sS 19 (σ6.1 20) σ6)))).1 21 = σ.1 21 from rs_o (by decide) (rs_o (by decide) (rs_J (rs_o (by decide) (rs_F F2 (by decide) (rfl)))))]; omega, by rw [show (sS 22 0 (sS 23 v11 (sJ 24 0 (0) (sS 19 (σ6.1 20) σ6)))).1 19 = σ6.1 20 from rs_o (by decide) (rs_o (by decide) (rs_J (rs_eq)))]; omega⟩)
end
section
def Im (v k : Int) (P : Prop) : Prop := v = k → P
end
section
def PXx (σ : MS) : Int := if σ.1 25 = 3 ∧ σ.1 34 < 220 ∧ σ.1 30 < 6 then 220 * σ.1 30 + σ.1 34 else 2640
def ITz (τ : MS) (x k d o : Int) : Prop := τ.2.1 3 x = k ∧ τ.2.1 4 x = d ∧ τ.2.1 5 x = o ∧ τ.2.1 6 x = 0 ∧ ∀ i, 0 ≤ i → i < 4 → τ.2.1 7 (4 * x + i) = 0
def NN (σ : MS) : Prop := ∀ r, 0 ≤ r → r < 6 → 0 ≤ σ.2.1 35 r ∧ σ.2.1 35 r ≤ 12
theorem NN.fr {ss ks js : List Nat} {σ τ : MS} (h : NN σ) (f : Fr ss ks js σ τ) (hk : 35 ∉ ks) : NN τ := by unfold NN; rw [f.2.1 35 hk]; exact h
def FLT (σ τ : MS) : Prop := (σ.1 26 ≠ 0 → τ.1 26 ≠ 0) ∧ (0 ≤ σ.1 26 → 0 ≤ τ.1 26)
theorem FLT.trans {σ τ υ : MS} (h : FLT σ τ) (g : FLT τ υ) : FLT σ υ := ⟨fun a => g.1 (h.1 a), fun a => g.2 (h.2 a)⟩
theorem FLT.eq {σ τ : MS} (h : τ.1 26 = σ.1 26) : FLT σ τ := by unfold FLT; rw [h]; exact ⟨id, id⟩
theorem FLT.wr {σ τ : MS} (h1 : σ.1 26 ≠ 0 → τ = σ) (h2 : σ.1 26 = 0 → τ = sS 27 (σ.1 19) (sS 26 1 σ)) : FLT σ τ := by
  by_cases z : σ.1 26 = 0
  · rw [h2 z]; exact ⟨fun a => absurd z a, fun _ => (by decide : (0 : Int) ≤ 1)⟩
  · rw [h1 z]; exact FLT.eq rfl
def PBF (σ τ : MS) : Prop :=
  (∀ x, x ≠ 2640 → (x < 220 * σ.1 30 + σ.1 34 ∨ 220 * σ.1 30 + 220 ≤ x ∨ σ.1 25 ≠ 3 ∨ 6 ≤ σ.1 30) → IEQ σ x τ x) ∧
  (σ.1 25 ≠ 1 → τ.2.1 35 = σ.2.1 35 ∧ τ.2.2 38 = σ.2.2 38) ∧ NN τ ∧ (∀ r, σ.2.1 35 r ≤ τ.2.1 35 r ∧ (r ≠ σ.1 30 → τ.2.1 35 r = σ.2.1 35 r)) ∧
  FLT σ τ ∧ σ.1 34 ≤ τ.1 34 ∧ τ.1 25 = σ.1 25 ∧ τ.1 30 = σ.1 30
theorem PBF.trans {σ τ υ : MS} (h : PBF σ τ) (g : PBF τ υ) : PBF σ υ := by
  obtain ⟨h1, h2, h3, h4, h5, h6, h7, h8⟩ := h
  obtain ⟨g1, g2, g3, g4, g5, g6, g7, g8⟩ := g
  refine ⟨fun x a b => (h1 x a b).trans (g1 x a (by omega)), fun a => ?_, g3, fun r => ⟨Int.le_trans (h4 r).1 (g4 r).1, fun a => ((g4 r).2 (by omega)).trans ((h4 r).2 a)⟩, h5.trans g5, by omega, g7.trans h7, g8.trans h8⟩
  have x := h2 a
  have y := g2 (by omega)
  exact ⟨y.1.trans x.1, y.2.trans x.2⟩
theorem IEQ.of {ss ks js : List Nat} {σ τ : MS} {x : Int} (f : Fr ss ks js σ τ) (h : ∀ k ∈ [3, 4, 5, 6, 7, 8], k ∉ ks) : IEQ σ x τ x := by
  unfold IEQ
  rw [f.q h (k := 3) (by decide), f.q h (k := 4) (by decide), f.q h (k := 5) (by decide), f.q h (k := 6) (by decide), f.q h (k := 7) (by decide), f.q h (k := 8) (by decide)]
  exact ⟨Eq.refl _, Eq.refl _, Eq.refl _, Eq.refl _, fun _ _ _ => ⟨Eq.refl _, Eq.refl _⟩⟩
theorem PBF.of {ss ks js : List Nat} {σ τ : MS} (hn : NN σ) (f : Fr ss ks js σ τ) (hs : ∀ k ∈ [25, 30, 34], k ∉ ss) (hk : ∀ k ∈ [3, 4, 5, 6, 7, 8, 35], k ∉ ks) (hj : 38 ∉ js) (h26 : FLT σ τ) : PBF σ τ :=
  ⟨fun x _ _ => IEQ.of f (fun k q => hk k (by revert k q; decide)), fun _ => ⟨f.2.1 35 (hk 35 (by decide)), f.2.2 38 hj⟩, hn.fr f (hk 35 (by decide)), fun r => by rw [f.2.1 35 (hk 35 (by decide))]; exact ⟨Int.le_refl _, fun _ => Eq.refl _⟩, h26, by rw [f.1 34 (hs 34 (by decide))]; omega, f.1 25 (hs 25 (by decide)), f.1 30 (hs 30 (by decide))⟩
theorem PBF.nop {ss ks js : List Nat} {σ τ : MS} (hn : NN σ) (f : Fr ss ks js σ τ) (hs : ∀ k ∈ [25, 26, 30, 34], k ∉ ss) (hk : ∀ k ∈ [3, 4, 5, 6, 7, 8, 35], k ∉ ks) (hj : 38 ∉ js) : PBF σ τ := PBF.of hn f (fun k q => hs k (by revert k q; decide)) hk hj (FLT.eq (f.1 26 (hs 26 (by decide))))
theorem PBF.put {ss ks js : List Nat} {σ τ : MS} (hn : NN σ) (f : Fr ss ks js σ τ) (hs : ∀ k ∈ [25, 26, 30], k ∉ ss) (hk : 35 ∉ ks) (hj : 38 ∉ js) (h34 : τ.1 34 = σ.1 34 + 1) (o : OFF (PXx σ) σ τ) : PBF σ τ := by
  refine ⟨fun x a b => o.ieq ?_, fun _ => ⟨f.2.1 35 hk, f.2.2 38 hj⟩, hn.fr f hk, fun r => by rw [f.2.1 35 hk]; exact ⟨Int.le_refl _, fun _ => Eq.refl _⟩, FLT.eq (f.1 26 (hs 26 (by decide))), by omega, f.1 25 (hs 25 (by decide)), f.1 30 (hs 30 (by decide))⟩
  unfold PXx
  split <;> omega
def ACI (σ : MS) (B x : Int) : Prop := (1 ≤ σ.2.1 3 x ∧ σ.2.1 3 x ≤ 5) ∧ (0 ≤ σ.2.1 4 x ∧ σ.2.1 4 x < B) ∧ σ.2.1 5 x = 0 ∧ ∀ i, 0 ≤ i → i < 4 → (0 ≤ σ.2.1 7 (4 * x + i) ∧ σ.2.1 7 (4 * x + i) ≤ 2) ∧ (σ.2.1 7 (4 * x + i) = 2 → (0 ≤ σ.2.1 8 (4 * x + i) ∧ σ.2.1 8 (4 * x + i) < B) ∧ i < 2)
theorem ACI.mv {σ τ : MS} {B C x : Int} (h : ACI σ B x) (e : IEQ σ x τ x) (hb : B ≤ C) : ACI τ C x := by
  obtain ⟨h1, h2, h3, h4⟩ := h
  obtain ⟨e1, e2, e3, e4, e5⟩ := e
  refine ⟨by rw [e1]; exact h1, by rw [e2]; omega, by rw [e3]; exact h3, fun i a b => ?_⟩
  have q := h4 i a b
  rw [(e5 i a b).1, (e5 i a b).2]
  refine ⟨q.1, fun z => ?_⟩
  have := q.2 z
  omega
def AC (σ τ : MS) : Prop := σ.1 25 = 3 → σ.1 30 < 6 → ∀ k, σ.1 34 ≤ k → k < τ.1 34 → k < 220 → ACI τ (12 + τ.1 34) (220 * σ.1 30 + k)
theorem AC.trans {σ τ υ : MS} (h : AC σ τ) (p : PBF σ τ) (g : AC τ υ) (q : PBF τ υ) (h0 : 0 ≤ σ.1 30) : AC σ υ := fun a b k c d e => by
  obtain ⟨-, -, -, -, -, p6, p7, p8⟩ := p
  obtain ⟨q1, -, -, -, -, q6, -, -⟩ := q
  by_cases z : k < τ.1 34
  · refine (h a b k c z e).mv ?_ (by omega)
    rw [← p8]
    exact q1 _ (by omega) (by omega)
  · have y := g (by omega) (by omega) k (by omega) d e
    rw [p8] at y
    exact y
theorem AC.nil {σ τ : MS} (h : τ.1 34 = σ.1 34) : AC σ τ := fun _ _ k c d _ => by omega
theorem AC.one {σ τ : MS} (h34 : τ.1 34 = σ.1 34 + 1) (h : ACI τ (12 + τ.1 34) (PXx σ)) : AC σ τ := fun a b k c d e => by
  have ek : k = σ.1 34 := by omega
  have : PXx σ = 220 * σ.1 30 + k := by unfold PXx; rw [if_pos (by omega), ek]
  rw [← this]; exact h
def GTm (τ : MS) : Prop := (τ.1 39 = 1 ∨ τ.1 39 = 2) ∧ (τ.1 39 = 2 → 0 ≤ τ.1 40 ∧ τ.1 40 < 12 + τ.1 34)
def PBC (n : Int) (σ τ : MS) : Prop := σ.1 19 ≤ τ.1 19 ∧ 2 * σ.1 19 - σ.1 34 + n ≤ 2 * τ.1 19 - τ.1 34 ∧ σ.1 32 ≤ τ.1 32 ∧ τ.1 32 - σ.1 32 ≤ τ.1 34 - σ.1 34 ∧ σ.1 31 ≤ τ.1 31 ∧ τ.1 31 - σ.1 31 ≤ τ.1 19 - σ.1 19 ∧ σ.1 33 ≤ τ.1 33 ∧ τ.1 33 - σ.1 33 ≤ τ.1 34 - σ.1 34
theorem PBC.trans {n m : Int} {σ τ υ : MS} (h : PBC n σ τ) (g : PBC m τ υ) : PBC (n + m) σ υ := by
  unfold PBC at *
  omega
theorem PBC.le {n m : Int} {σ τ : MS} (h : PBC n σ τ) (e : m ≤ n) : PBC m σ τ := by
  unfold PBC at *
  omega
theorem PBC.nop {ss ks js : List Nat} {σ τ : MS} (f : Fr ss ks js σ τ) (hs : ∀ k ∈ [19, 31, 32, 33, 34], k ∉ ss) : PBC 0 σ τ := by
  unfold PBC
  rw [f.1 19 (hs 19 (by decide)), f.1 31 (hs 31 (by decide)), f.1 32 (hs 32 (by decide)), f.1 33 (hs 33 (by decide)), f.1 34 (hs 34 (by decide))]
  omega
def RDY (σ : MS) : Prop := TOK σ ∧ (0 ≤ σ.1 25 ∧ σ.1 25 ≤ 3) ∧ (0 ≤ σ.1 30 ∧ σ.1 30 ≤ 2000) ∧ (0 ≤ σ.1 34 ∧ σ.1 34 ≤ 2 * σ.1 19 + 10) ∧ (0 ≤ σ.1 32 ∧ σ.1 32 ≤ 12 + σ.1 34) ∧ (0 ≤ σ.1 31 ∧ σ.1 31 ≤ σ.1 19) ∧ (0 ≤ σ.1 33 ∧ σ.1 33 ≤ σ.1 34)
theorem OFF.fr {ss ks js : List Nat} {x : Int} {σ τ υ : MS} (h : OFF x σ τ) (f : Fr ss ks js τ υ) (hk : ∀ k ∈ [3, 4, 5, 6, 7, 8, 9, 11], k ∉ ks) : OFF x σ υ := by
  unfold OFF
  rw [f.q hk (k := 3) (by decide), f.q hk (k := 4) (by decide), f.q hk (k := 5) (by decide), f.q hk (k := 6) (by decide), f.q hk (k := 7) (by decide), f.q hk (k := 8) (by decide), f.q hk (k := 9) (by decide), f.q hk (k := 11) (by decide)]
  exact h
theorem fArg_at {x i k v : Int} {σ : MS} : (fArg x i k v σ).2.1 7 (4 * x + i) = k ∧ (fArg x i k v σ).2.1 8 (4 * x + i) = v := ⟨ra_o (by decide) ra_eq, ra_eq⟩
theorem fArg_ne {x i j k v : Int} {σ : MS} (h : j ≠ i) : (fArg x i k v σ).2.1 7 (4 * x + j) = σ.2.1 7 (4 * x + j) ∧ (fArg x i k v σ).2.1 8 (4 * x + j) = σ.2.1 8 (4 * x + j) := ⟨ra_o (by decide) (ra_ne (by omega) rfl), ra_ne (by omega) (ra_o (by decide) rfl)⟩
theorem ACI.mk {σ : MS} {x k t ak a bk c B : Int} (h : ITz σ x k t 0) (hk : 1 ≤ k ∧ k ≤ 5) (ht : 0 ≤ t ∧ t < B) (ha : (0 ≤ ak ∧ ak ≤ 2) ∧ (ak = 2 → 0 ≤ a ∧ a < B)) (hb : (0 ≤ bk ∧ bk ≤ 2) ∧ (bk = 2 → 0 ≤ c ∧ c < B)) : ACI (fArg x 1 bk c (fArg x 0 ak a σ)) B x := by
  obtain ⟨h1, h2, h3, h4, h5⟩ := h
  refine ⟨?_, ?_, ?_, fun i i0 i4 => ?_⟩
  · show 1 ≤ σ.2.1 3 x ∧ σ.2.1 3 x ≤ 5
    omega
  · show 0 ≤ σ.2.1 4 x ∧ σ.2.1 4 x < B
    omega
  · exact h3
  · by_cases z1 : i = 1
    · rw [z1, fArg_at.1, fArg_at.2]
      exact ⟨hb.1, fun q => ⟨hb.2 q, by omega⟩⟩
    · rw [(fArg_ne z1).1, (fArg_ne z1).2]
      by_cases z0 : i = 0
      · rw [z0, fArg_at.1, fArg_at.2]
        exact ⟨ha.1, fun q => ⟨ha.2 q, by omega⟩⟩
      · rw [(fArg_ne z0).1, h5 i i0 i4]
        exact ⟨by omega, fun q => by omega⟩
theorem PBF.name {σ : MS} {w : Int64} {z : Int} (hn : NN σ) (h1 : σ.1 25 = 1) (hr : 0 ≤ σ.1 30 ∧ σ.1 30 < 6) (h12 : σ.2.1 35 (σ.1 30) ≠ 12) : PBF σ (sA 35 (σ.1 30) (σ.2.1 35 (σ.1 30) + 1) (sJ 38 z w σ)) := by
  have f : Fr [] [35] [38] σ (sA 35 (σ.1 30) (σ.2.1 35 (σ.1 30) + 1) (sJ 38 z w σ)) := (Fr.rfl.J (by decide)).A (by decide)
  refine ⟨fun x _ _ => IEQ.of f (by decide), fun a => absurd h1 a, fun r a b => ?_, fun r => ⟨?_, fun a => ra_ne a rfl⟩, FLT.eq rfl, Int.le_refl _, rfl, rfl⟩
  by_cases e : r = σ.1 30
  · rw [e, show (sA 35 (σ.1 30) (σ.2.1 35 (σ.1 30) + 1) (sJ 38 z w σ)).2.1 35 (σ.1 30) = σ.2.1 35 (σ.1 30) + 1 from ra_eq]
    have := hn (σ.1 30) hr.1 hr.2
    omega
  · rw [show (sA 35 (σ.1 30) (σ.2.1 35 (σ.1 30) + 1) (sJ 38 z w σ)).2.1 35 r = σ.2.1 35 r from ra_ne e rfl]
    exact hn r a b
  by_cases e : r = σ.1 30
  · rw [e, show (sA 35 (σ.1 30) (σ.2.1 35 (σ.1 30) + 1) (sJ 38 z w σ)).2.1 35 (σ.1 30) = σ.2.1 35 (σ.1 30) + 1 from ra_eq]
    omega
  · rw [show (sA 35 (σ.1 30) (σ.2.1 35 (σ.1 30) + 1) (sJ 38 z w σ)).2.1 35 r = σ.2.1 35 r from ra_ne e rfl]
    exact Int.le_refl _
def NDQ (σ : MS) (c : Int) (τ : MS) : Prop := SG σ c ∧ ADVm σ τ ∧ TOK τ ∧ σ.1 20 ≤ τ.1 19 ∧ τ.1 26 = σ.1 26
theorem WRG.of {σ τ : MS} (h : σ.1 26 = 0 → τ = sS 27 (σ.1 19) (sS 26 1 σ)) : WRG σ τ := fun z => by
  rw [h z]
  exact ⟨rfl, rfl⟩
end
