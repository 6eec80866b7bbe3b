theorem dX12_meltOne_52 : decode cX12_meltOne 52 = .ok (.iload 10, 2) := by decide +kernel
theorem dX12_meltOne_54 : decode cX12_meltOne 54 = .ok (.ifCond .le 26, 3) := by decide +kernel
theorem dX12_meltOne_57 : decode cX12_meltOne 57 = .ok (.aload_n 0, 1) := by decide +kernel
theorem dX12_meltOne_58 : decode cX12_meltOne 58 = .ok (.getfield 13, 3) := by decide +kernel
theorem dX12_meltOne_61 : decode cX12_meltOne 61 = .ok (.aload_n 0, 1) := by decide +kernel
theorem dX12_meltOne_62 : decode cX12_meltOne 62 = .ok (.iload_n 1, 1) := by decide +kernel
theorem dX12_meltOne_63 : decode cX12_meltOne 63 = .ok (.iload 10, 2) := by decide +kernel
theorem dX12_meltOne_65 : decode cX12_meltOne 65 = .ok (.invokevirtual 203, 3) := by decide +kernel
theorem dX12_meltOne_68 : decode cX12_meltOne 68 = .ok (.iaload, 1) := by decide +kernel
theorem dX12_meltOne_69 : decode cX12_meltOne 69 = .ok (.bipush 11, 2) := by decide +kernel
theorem dX12_meltOne_71 : decode cX12_meltOne 71 = .ok (.if_icmp .eq 9, 3) := by decide +kernel
theorem dX12_meltOne_74 : decode cX12_meltOne 74 = .ok (.iinc 10 (-1), 3) := by decide +kernel
theorem dX12_meltOne_77 : decode cX12_meltOne 77 = .ok (.goto (-25), 3) := by decide +kernel
set_option maxHeartbeats 2000000 in
set_option maxRecDepth 20000 in
theorem l_mo1 (d : Nat) {b : Nat} {σ : MS} {r : Int} {k : Int} {q : Int} {f : Int} {base : Int} {lb : Int} {out : Int} {to : Int} {j0 : Int} {post : Option Value → MS → Prop} (hr : 0 ≤ r ∧ r < 6) (hR : RG σ) (hk : 0 ≤ k ∧ k < 220) (hj : 0 ≤ j0 ∧ j0 < k ∧ σ.2.1 3 (220 * r + j0) = 11) (h10 : σ.2.1 3 (220 * r + k) = 10) (hb5 : ∀ i, j0 < i → i < k → σ.2.1 3 (220 * r + i) ≤ 5) (hx_80 : ∀ (mk : Int) , (mk = j0) → Tm (d + 2) m_X12_meltOne 80 b σ [(10, .int (iI mk)), (9, .int (iI to)), (8, .int (iI out)), (7, .int (iI lb)), (6, .int (iI base)), (5, .int (iI f)), (4, .int (iI (220 * r + k))), (0, .ref b), (1, .int (iI r)), (2, .int (iI k)), (3, .int (iI q))] [] post) : ∀ (n : Nat) (mk : Int) , (j0 ≤ mk ∧ mk ≤ k) → (mk).toNat = n → Tm (d + 2) m_X12_meltOne 52 b σ [(10, .int (iI mk)), (9, .int (iI to)), (8, .int (iI out)), (7, .int (iI lb)), (6, .int (iI base)), (5, .int (iI f)), (4, .int (iI (220 * r + k))), (0, .ref b), (1, .int (iI r)), (2, .int (iI k)), (3, .int (iI q))] [] post := by
  intro n
  induction n using Nat.strongRecOn with
  | _ n ih =>
    intro mk h0 hm
    refine tm_iload dX12_meltOne_52 0 rfl ?_
    refine tm_if_le (tgt := 80) dX12_meltOne_54 (by decide) ⟨by omega, by omega⟩ (fun h1 => ?_) (fun h1 => ?_)
    · exact tm_sub [0, 1, 2, 3, 4, 5, 6, 7, 8, 9, 10] rfl (hx_80 (mk) (by
        by_cases e : mk = j0
        · exact e
        · exfalso
          by_cases e2 : mk = k
          · subst e2; omega
          · have := hb5 mk (by omega) (by omega); omega))
    · refine tm_aload_n dX12_meltOne_57 rfl 7 rfl ?_
      refine tm_get (k := 3) (v := .ref (b + 1 + 1)) lay_12 dX12_meltOne_58 (by decide) fl12_13 rfl ?_
      refine tm_aload_n dX12_meltOne_61 rfl 7 rfl ?_
      refine tm_iload_n dX12_meltOne_62 rfl 8 rfl ?_
      refine tm_iload dX12_meltOne_63 0 rfl ?_
      refine tm_callV (M := m_X12_meltOne) (pc := 65) (ix := 203) (M' := m_X12_at) (As := [.int (iI r), .int (iI mk)]) (rest := [.ref (b + 1 + 1)]) dX12_meltOne_65 ok_X12_at im_X12_at se_X12_at ml12_203 np_X12_at rfl rfl (Nat.le_of_ble_eq_true rfl) (Nat.le_of_ble_eq_true rfl) rfl (c_X12_at (d) (σ := σ) (x := r) (k := mk) ) (fun r2 σ3 hp => ?_)
      obtain ⟨v4, rfl, rfl, f5⟩ := hp
      subst f5
      show Tm _ _ 68 b σ [(10, .int (iI mk)), (9, .int (iI to)), (8, .int (iI out)), (7, .int (iI lb)), (6, .int (iI base)), (5, .int (iI f)), (4, .int (iI (220 * r + k))), (0, .ref b), (1, .int (iI r)), (2, .int (iI k)), (3, .int (iI q))] [.int (iI (220 * r + mk)), .ref (b + 1 + 1)] _
      refine tm_iald (z := 220 * r + mk) (v := σ.2.1 3 (220 * r + mk)) dX12_meltOne_68 (show mT[1]? = some (3, 0, 2860) from rfl) (by omega) (by omega) (by decide) (rfl) ?_
      have g6 := RG.a hR 3 (220 * r + mk)
      refine tm_bipush dX12_meltOne_69 (by decide) ?_
      refine tm_icmp_eq (tgt := 80) dX12_meltOne_71 (by decide) ⟨by omega, by omega⟩ ⟨by decide, by decide⟩ (fun h7 => ?_) (fun h7 => ?_)
      · exact tm_sub [0, 1, 2, 3, 4, 5, 6, 7, 8, 9, 10] rfl (hx_80 (mk) (by
        by_cases e : mk = j0
        · exact e
        · exfalso
          by_cases e2 : mk = k
          · subst e2; omega
          · have := hb5 mk (by omega) (by omega); omega))
      · refine tm_iinc (q0 := 0) (L' := [(10, .int (iI (mk + (-1)))), (9, .int (iI to)), (8, .int (iI out)), (7, .int (iI lb)), (6, .int (iI base)), (5, .int (iI f)), (4, .int (iI (220 * r + k))), (0, .ref b), (1, .int (iI r)), (2, .int (iI k)), (3, .int (iI q))]) dX12_meltOne_74 rfl (by decide) rfl ?_
        refine tm_goto (tgt := 52) dX12_meltOne_77 (by decide) ?_
        exact tm_sub [0, 1, 2, 3, 4, 5, 6, 7, 8, 9, 10] rfl (ih _ (by omega) (mk + (-1)) (by
          refine ⟨?_, by omega⟩
          by_cases e : mk = j0
          · subst e; omega
          · omega) rfl)
theorem dX12_meltOne_99 : decode cX12_meltOne 99 = .ok (.iload 11, 2) := by decide +kernel
theorem dX12_meltOne_101 : decode cX12_meltOne 101 = .ok (.aload_n 0, 1) := by decide +kernel
theorem dX12_meltOne_102 : decode cX12_meltOne 102 = .ok (.getfield 38, 3) := by decide +kernel
theorem dX12_meltOne_105 : decode cX12_meltOne 105 = .ok (.iload_n 3, 1) := by decide +kernel
theorem dX12_meltOne_106 : decode cX12_meltOne 106 = .ok (.iaload, 1) := by decide +kernel
theorem dX12_meltOne_107 : decode cX12_meltOne 107 = .ok (.if_icmp .ge 144, 3) := by decide +kernel
theorem dX12_meltOne_110 : decode cX12_meltOne 110 = .ok (.iload 6, 2) := by decide +kernel
theorem dX12_meltOne_112 : decode cX12_meltOne 112 = .ok (.aload_n 0, 1) := by decide +kernel
theorem dX12_meltOne_113 : decode cX12_meltOne 113 = .ok (.getfield 56, 3) := by decide +kernel
theorem dX12_meltOne_116 : decode cX12_meltOne 116 = .ok (.sipush 144, 3) := by decide +kernel
theorem dX12_meltOne_119 : decode cX12_meltOne 119 = .ok (.iload_n 3, 1) := by decide +kernel
theorem dX12_meltOne_120 : decode cX12_meltOne 120 = .ok (.imul, 1) := by decide +kernel
theorem dX12_meltOne_121 : decode cX12_meltOne 121 = .ok (.iload 11, 2) := by decide +kernel
theorem dX12_meltOne_123 : decode cX12_meltOne 123 = .ok (.iadd, 1) := by decide +kernel
theorem dX12_meltOne_124 : decode cX12_meltOne 124 = .ok (.iaload, 1) := by decide +kernel
theorem dX12_meltOne_125 : decode cX12_meltOne 125 = .ok (.iadd, 1) := by decide +kernel
theorem dX12_meltOne_126 : decode cX12_meltOne 126 = .ok (.istore 12, 2) := by decide +kernel
theorem dX12_meltOne_128 : decode cX12_meltOne 128 = .ok (.iload 11, 2) := by decide +kernel
theorem dX12_meltOne_130 : decode cX12_meltOne 130 = .ok (.aload_n 0, 1) := by decide +kernel
theorem dX12_meltOne_131 : decode cX12_meltOne 131 = .ok (.getfield 35, 3) := by decide +kernel
theorem dX12_meltOne_134 : decode cX12_meltOne 134 = .ok (.iload_n 3, 1) := by decide +kernel
theorem dX12_meltOne_135 : decode cX12_meltOne 135 = .ok (.iaload, 1) := by decide +kernel
theorem dX12_meltOne_136 : decode cX12_meltOne 136 = .ok (.if_icmp .ge 35, 3) := by decide +kernel
theorem dX12_meltOne_171 : decode cX12_meltOne 171 = .ok (.aload_n 0, 1) := by decide +kernel
theorem dX12_meltOne_172 : decode cX12_meltOne 172 = .ok (.bipush 12, 2) := by decide +kernel
theorem dX12_meltOne_174 : decode cX12_meltOne 174 = .ok (.iload 11, 2) := by decide +kernel
theorem dX12_meltOne_176 : decode cX12_meltOne 176 = .ok (.iload 5, 2) := by decide +kernel
theorem dX12_meltOne_178 : decode cX12_meltOne 178 = .ok (.iload 11, 2) := by decide +kernel
theorem dX12_meltOne_180 : decode cX12_meltOne 180 = .ok (.aload_n 0, 1) := by decide +kernel
theorem dX12_meltOne_181 : decode cX12_meltOne 181 = .ok (.getfield 35, 3) := by decide +kernel
theorem dX12_meltOne_184 : decode cX12_meltOne 184 = .ok (.iload_n 3, 1) := by decide +kernel
theorem dX12_meltOne_185 : decode cX12_meltOne 185 = .ok (.iaload, 1) := by decide +kernel
theorem dX12_meltOne_186 : decode cX12_meltOne 186 = .ok (.if_icmp .ge 7, 3) := by decide +kernel
theorem dX12_meltOne_193 : decode cX12_meltOne 193 = .ok (.iconst 1, 1) := by decide +kernel
theorem dX12_meltOne_194 : decode cX12_meltOne 194 = .ok (.iload 11, 2) := by decide +kernel
theorem dX12_meltOne_196 : decode cX12_meltOne 196 = .ok (.aload_n 0, 1) := by decide +kernel
theorem dX12_meltOne_197 : decode cX12_meltOne 197 = .ok (.getfield 35, 3) := by decide +kernel
theorem dX12_meltOne_200 : decode cX12_meltOne 200 = .ok (.iload_n 3, 1) := by decide +kernel
theorem dX12_meltOne_201 : decode cX12_meltOne 201 = .ok (.iaload, 1) := by decide +kernel
theorem dX12_meltOne_202 : decode cX12_meltOne 202 = .ok (.if_icmp .ge 8, 3) := by decide +kernel
theorem dX12_meltOne_210 : decode cX12_meltOne 210 = .ok (.iconst 0, 1) := by decide +kernel
theorem dX12_meltOne_211 : decode cX12_meltOne 211 = .ok (.invokevirtual 515, 3) := by decide +kernel
theorem dX12_meltOne_214 : decode cX12_meltOne 214 = .ok (.aload_n 0, 1) := by decide +kernel
theorem dX12_meltOne_215 : decode cX12_meltOne 215 = .ok (.getfield 23, 3) := by decide +kernel
theorem dX12_meltOne_218 : decode cX12_meltOne 218 = .ok (.sipush 2640, 3) := by decide +kernel
theorem dX12_meltOne_221 : decode cX12_meltOne 221 = .ok (.aload_n 0, 1) := by decide +kernel
theorem dX12_meltOne_222 : decode cX12_meltOne 222 = .ok (.getfield 509, 3) := by decide +kernel
theorem dX12_meltOne_225 : decode cX12_meltOne 225 = .ok (.iadd, 1) := by decide +kernel
theorem dX12_meltOne_226 : decode cX12_meltOne 226 = .ok (.iconst 1, 1) := by decide +kernel
theorem dX12_meltOne_227 : decode cX12_meltOne 227 = .ok (.isub, 1) := by decide +kernel
theorem dX12_meltOne_228 : decode cX12_meltOne 228 = .ok (.iload 11, 2) := by decide +kernel
theorem dX12_meltOne_230 : decode cX12_meltOne 230 = .ok (.aload_n 0, 1) := by decide +kernel
theorem dX12_meltOne_231 : decode cX12_meltOne 231 = .ok (.getfield 35, 3) := by decide +kernel
theorem dX12_meltOne_234 : decode cX12_meltOne 234 = .ok (.iload_n 3, 1) := by decide +kernel
theorem dX12_meltOne_235 : decode cX12_meltOne 235 = .ok (.iaload, 1) := by decide +kernel
theorem dX12_meltOne_236 : decode cX12_meltOne 236 = .ok (.if_icmp .ge 7, 3) := by decide +kernel
theorem dX12_meltOne_243 : decode cX12_meltOne 243 = .ok (.iconst 1, 1) := by decide +kernel
theorem dX12_meltOne_244 : decode cX12_meltOne 244 = .ok (.iastore, 1) := by decide +kernel
theorem dX12_meltOne_245 : decode cX12_meltOne 245 = .ok (.iinc 11 1, 3) := by decide +kernel
theorem dX12_meltOne_248 : decode cX12_meltOne 248 = .ok (.goto (-149), 3) := by decide +kernel
theorem dX12_meltOne_139 : decode cX12_meltOne 139 = .ok (.aload_n 0, 1) := by decide +kernel
theorem dX12_meltOne_140 : decode cX12_meltOne 140 = .ok (.iconst 0, 1) := by decide +kernel
theorem dX12_meltOne_141 : decode cX12_meltOne 141 = .ok (.iload 12, 2) := by decide +kernel
theorem dX12_meltOne_143 : decode cX12_meltOne 143 = .ok (.iconst 0, 1) := by decide +kernel
theorem dX12_meltOne_144 : decode cX12_meltOne 144 = .ok (.aload_n 0, 1) := by decide +kernel
theorem dX12_meltOne_145 : decode cX12_meltOne 145 = .ok (.getfield 26, 3) := by decide +kernel
theorem dX12_meltOne_148 : decode cX12_meltOne 148 = .ok (.iconst 4, 1) := by decide +kernel
theorem dX12_meltOne_149 : decode cX12_meltOne 149 = .ok (.iload 4, 2) := by decide +kernel
theorem dX12_meltOne_151 : decode cX12_meltOne 151 = .ok (.imul, 1) := by decide +kernel
theorem dX12_meltOne_152 : decode cX12_meltOne 152 = .ok (.iload 11, 2) := by decide +kernel
theorem dX12_meltOne_154 : decode cX12_meltOne 154 = .ok (.iadd, 1) := by decide +kernel
theorem dX12_meltOne_155 : decode cX12_meltOne 155 = .ok (.iaload, 1) := by decide +kernel
theorem dX12_meltOne_156 : decode cX12_meltOne 156 = .ok (.aload_n 0, 1) := by decide +kernel
theorem dX12_meltOne_157 : decode cX12_meltOne 157 = .ok (.getfield 29, 3) := by decide +kernel
theorem dX12_meltOne_160 : decode cX12_meltOne 160 = .ok (.iconst 4, 1) := by decide +kernel
theorem dX12_meltOne_161 : decode cX12_meltOne 161 = .ok (.iload 4, 2) := by decide +kernel
theorem dX12_meltOne_163 : decode cX12_meltOne 163 = .ok (.imul, 1) := by decide +kernel
theorem dX12_meltOne_164 : decode cX12_meltOne 164 = .ok (.iload 11, 2) := by decide +kernel
theorem dX12_meltOne_166 : decode cX12_meltOne 166 = .ok (.iadd, 1) := by decide +kernel
theorem dX12_meltOne_167 : decode cX12_meltOne 167 = .ok (.iaload, 1) := by decide +kernel
theorem dX12_meltOne_168 : decode cX12_meltOne 168 = .ok (.invokevirtual 515, 3) := by decide +kernel
theorem dX12_meltOne_189 : decode cX12_meltOne 189 = .ok (.iconst 2, 1) := by decide +kernel
theorem dX12_meltOne_190 : decode cX12_meltOne 190 = .ok (.goto 4, 3) := by decide +kernel
theorem dX12_meltOne_205 : decode cX12_meltOne 205 = .ok (.iload 12, 2) := by decide +kernel
theorem dX12_meltOne_207 : decode cX12_meltOne 207 = .ok (.goto 4, 3) := by decide +kernel
theorem dX12_meltOne_239 : decode cX12_meltOne 239 = .ok (.iconst 2, 1) := by decide +kernel
theorem dX12_meltOne_240 : decode cX12_meltOne 240 = .ok (.goto 4, 3) := by decide +kernel
set_option maxHeartbeats 2000000 in
set_option maxRecDepth 20000 in
theorem l_mo2 (d : Nat) {b : Nat} {σ0 : MS} {r : Int} {k : Int} {q : Int} {f : Int} {base : Int} {lb : Int} {out : Int} {to : Int} {ρ : MS} {FI : Int → Int} {lf : Int → Int} {frq : Int → Int} {lfq : Int → Int} {g0 : Int} {m : Int} {mk : Int} {post : Option Value → MS → Prop} (hmo : MOH ρ r k q f base lb out to g0 m FI lf frq lfq) (hR0 : RG σ0) (hρ : Fr [62] [3, 4, 5, 6, 7, 8] [] ρ σ0) (hx_251 : ∀ (n1 : Int) (σ : MS) , (Fr [62] [3, 4, 5, 6, 7, 8] [] σ0 σ) → (RG σ) → (1 ≤ σ.1 62 ∧ σ.1 62 ≤ 1 + ρ.2.1 12 q + ρ.2.1 11 q) → (MSG ρ σ FI lf q (f + ρ.2.1 14 q) lb out g0 (σ.1 62) 0 (f)) → Tm (d + 3) m_X12_meltOne 251 b σ [(10, .int (iI mk)), (9, .int (iI to)), (8, .int (iI out)), (7, .int (iI lb)), (6, .int (iI base)), (5, .int (iI f)), (4, .int (iI (220 * r + k))), (0, .ref b), (1, .int (iI r)), (2, .int (iI k)), (3, .int (iI q))] [] post) : ∀ (n : Nat) (n1 : Int) (σ : MS) , (Fr [62] [3, 4, 5, 6, 7, 8] [] σ0 σ) → (RG σ) → (0 ≤ n1 ∧ n1 ≤ σ0.2.1 12 q) → ((n1 ≤ σ0.2.1 11 q → σ.1 62 = 1 + 2 * n1) ∧ (σ0.2.1 11 q < n1 → σ.1 62 = 1 + n1 + σ0.2.1 11 q)) → (MSG ρ σ FI lf q (f + ρ.2.1 14 q) lb out g0 (σ.1 62) 0 (f)) → (12 - n1).toNat = n → Tm (d + 3) m_X12_meltOne 99 b σ [(11, .int (iI n1)), (10, .int (iI mk)), (9, .int (iI to)), (8, .int (iI out)), (7, .int (iI lb)), (6, .int (iI base)), (5, .int (iI f)), (4, .int (iI (220 * r + k))), (0, .ref b), (1, .int (iI r)), (2, .int (iI k)), (3, .int (iI q))] [] post := by
  intro n
  induction n using Nat.strongRecOn with
  | _ n ih =>
    intro n1 σ hF hR h0 hc hms hm
    have mn := hmo.n
    have mpa := hmo.2.2.2.2.2.2.2.2.2.1 q (by omega) (by omega)
    have e11 : σ0.2.1 11 q = ρ.2.1 11 q := by rw [hρ.2.1 11 (by decide)]
    have e12 : σ0.2.1 12 q = ρ.2.1 12 q := by rw [hρ.2.1 12 (by decide)]
    have e18 : σ0.2.1 18 (144 * q + n1) = ρ.2.1 18 (144 * q + n1) := by rw [hρ.2.1 18 (by decide)]
    have mna := hmo.2.2.2.2.2.2.2.2.2.2 q (by omega) (by omega)
    refine tm_iload dX12_meltOne_99 0 rfl ?_
    refine tm_aload_n dX12_meltOne_101 rfl 8 rfl ?_
    refine tm_get (k := 12) (v := .ref (b + 1 + 9)) lay_12 dX12_meltOne_102 (by decide) fl12_38 rfl ?_
    refine tm_iload_n dX12_meltOne_105 rfl 11 rfl ?_
    refine tm_iald (z := q) (v := σ0.2.1 12 q) dX12_meltOne_106 (show mT[9]? = some (12, 0, 6) from rfl) (by omega) (by omega) (by decide) (ra_F hF (by decide) (rfl)) ?_
    have g1 := RG.a hR0 12 (q)
    refine tm_icmp_ge (tgt := 251) dX12_meltOne_107 (by decide) ⟨by omega, by omega⟩ ⟨by omega, by omega⟩ (fun h2 => ?_) (fun h2 => ?_)
    · exact tm_sub [1, 2, 3, 4, 5, 6, 7, 8, 9, 10, 11] rfl (hx_251 (0) σ (Fr.rfl.trans (Fr.sub hF (by decide) (by decide) (by decide))) hR (by omega) hms)
    · have hnm := hmo.nm (n := n1) (by omega) (by omega)
      refine tm_iload dX12_meltOne_110 5 rfl ?_
      refine tm_aload_n dX12_meltOne_112 rfl 8 rfl ?_
      refine tm_get (k := 18) (v := .ref (b + 1 + 15)) lay_12 dX12_meltOne_113 (by decide) fl12_56 rfl ?_
      refine tm_sipush dX12_meltOne_116 (by decide) ?_
      refine tm_iload_n dX12_meltOne_119 rfl 11 rfl ?_
      refine tm_imul dX12_meltOne_120 ?_
      refine tm_iload dX12_meltOne_121 0 rfl ?_
      refine tm_iadd dX12_meltOne_123 ?_
      refine tm_iald (z := (144 * q) + n1) (v := σ0.2.1 18 ((144 * q) + n1)) dX12_meltOne_124 (show mT[15]? = some (18, 0, 864) from rfl) (by omega) (by omega) (by decide) (ra_F hF (by decide) (rfl)) ?_
      have g3 := RG.a hR0 18 ((144 * q) + n1)
      refine tm_iadd dX12_meltOne_125 ?_
      refine tm_istore (L' := [(12, .int (iI (base + (σ0.2.1 18 ((144 * q) + n1))))), (11, .int (iI n1)), (10, .int (iI mk)), (9, .int (iI to)), (8, .int (iI out)), (7, .int (iI lb)), (6, .int (iI base)), (5, .int (iI f)), (4, .int (iI (220 * r + k))), (0, .ref b), (1, .int (iI r)), (2, .int (iI k)), (3, .int (iI q))]) dX12_meltOne_126 (by decide) rfl ?_
      refine tm_iload dX12_meltOne_128 1 rfl ?_
      refine tm_aload_n dX12_meltOne_130 rfl 9 rfl ?_
      refine tm_get (k := 11) (v := .ref (b + 1 + 8)) lay_12 dX12_meltOne_131 (by decide) fl12_35 rfl ?_
      refine tm_iload_n dX12_meltOne_134 rfl 12 rfl ?_
      refine tm_iald (z := q) (v := σ0.2.1 11 q) dX12_meltOne_135 (show mT[8]? = some (11, 0, 6) from rfl) (by omega) (by omega) (by decide) (ra_F hF (by decide) (rfl)) ?_
      have g4 := RG.a hR0 11 (q)
      refine tm_icmp_ge (tgt := 171) dX12_meltOne_136 (by decide) ⟨by omega, by omega⟩ ⟨by omega, by omega⟩ (fun h5 => ?_) (fun h5 => ?_)
      · refine tm_aload_n dX12_meltOne_171 rfl 9 rfl ?_
        refine tm_bipush dX12_meltOne_172 (by decide) ?_
        refine tm_iload dX12_meltOne_174 1 rfl ?_
        refine tm_iload dX12_meltOne_176 7 rfl ?_
        refine tm_iload dX12_meltOne_178 1 rfl ?_
        refine tm_aload_n dX12_meltOne_180 rfl 9 rfl ?_
        refine tm_get (k := 11) (v := .ref (b + 1 + 8)) lay_12 dX12_meltOne_181 (by decide) fl12_35 rfl ?_
        refine tm_iload_n dX12_meltOne_184 rfl 12 rfl ?_
        refine tm_iald (z := q) (v := σ0.2.1 11 q) dX12_meltOne_185 (show mT[8]? = some (11, 0, 6) from rfl) (by omega) (by omega) (by decide) (ra_F hF (by decide) (rfl)) ?_
        have g6 := RG.a hR0 11 (q)
        refine tm_icmp_ge (tgt := 193) dX12_meltOne_186 (by decide) ⟨by omega, by omega⟩ ⟨by omega, by omega⟩ (fun h7 => ?_) (fun h7 => ?_)
        · refine tm_iconst dX12_meltOne_193 ?_
          refine tm_iload dX12_meltOne_194 1 rfl ?_
          refine tm_aload_n dX12_meltOne_196 rfl 9 rfl ?_
          refine tm_get (k := 11) (v := .ref (b + 1 + 8)) lay_12 dX12_meltOne_197 (by decide) fl12_35 rfl ?_
          refine tm_iload_n dX12_meltOne_200 rfl 12 rfl ?_
          refine tm_iald (z := q) (v := σ0.2.1 11 q) dX12_meltOne_201 (show mT[8]? = some (11, 0, 6) from rfl) (by omega) (by omega) (by decide) (ra_F hF (by decide) (rfl)) ?_
          have g8 := RG.a hR0 11 (q)
          refine tm_icmp_ge (tgt := 210) dX12_meltOne_202 (by decide) ⟨by omega, by omega⟩ ⟨by omega, by omega⟩ (fun h9 => ?_) (fun h9 => ?_)
          · refine tm_iconst dX12_meltOne_210 ?_
            refine tm_callV (M := m_X12_meltOne) (pc := 211) (ix := 515) (M' := m_X12_add) (As := [.int (iI 12), .int (iI n1), .int (iI f), .int (iI 1), .int (iI 0)]) (rest := []) dX12_meltOne_211 ok_X12_add im_X12_add se_X12_add ml12_515 np_X12_add rfl rfl (Nat.le_of_ble_eq_true rfl) (Nat.le_of_ble_eq_true rfl) rfl (c_X12_add (d) (σ := σ) (k := 12) (e := n1) (o := f) (ak := 1) (a := 0) hR (by omega)) (fun r10 σ11 hp => ?_)
            obtain ⟨rfl, f13⟩ := hp
            subst f13
            show Tm _ _ 214 b (fAdd (12) (n1) (f) (1) (0) σ) [(12, .int (iI (base + (σ0.2.1 18 ((144 * q) + n1))))), (11, .int (iI n1)), (10, .int (iI mk)), (9, .int (iI to)), (8, .int (iI out)), (7, .int (iI lb)), (6, .int (iI base)), (5, .int (iI f)), (4, .int (iI (220 * r + k))), (0, .ref b), (1, .int (iI r)), (2, .int (iI k)), (3, .int (iI q))] [] _
            have n62b : (fAdd (12) (n1) (f) (1) (0) σ).1 62 = σ.1 62 + 1 := fAdd_n
            refine tm_aload_n dX12_meltOne_214 rfl 9 rfl ?_
            refine tm_get (k := 6) (v := .ref (b + 1 + 4)) lay_12 dX12_meltOne_215 (by decide) fl12_23 rfl ?_
            refine tm_sipush dX12_meltOne_218 (by decide) ?_
            refine tm_aload_n dX12_meltOne_221 rfl 9 rfl ?_
            refine tm_getS (k := 62) (t := (fAdd (12) (n1) (f) (1) (0) σ).1 62) dX12_meltOne_222 (by decide) fl12_509 rfl (rfl) ?_
            refine tm_iadd dX12_meltOne_225 ?_
            refine tm_iconst dX12_meltOne_226 ?_
            refine tm_isub dX12_meltOne_227 ?_
            refine tm_iload dX12_meltOne_228 1 rfl ?_
            refine tm_aload_n dX12_meltOne_230 rfl 9 rfl ?_
            refine tm_get (k := 11) (v := .ref (b + 1 + 8)) lay_12 dX12_meltOne_231 (by decide) fl12_35 rfl ?_
            refine tm_iload_n dX12_meltOne_234 rfl 12 rfl ?_
            refine tm_iald (z := q) (v := σ0.2.1 11 q) dX12_meltOne_235 (show mT[8]? = some (11, 0, 6) from rfl) (by omega) (by omega) (by decide) (ra_F fAdd_fr (by decide) (ra_F hF (by decide) (rfl))) ?_
            have g14 := RG.a hR0 11 (q)
            refine tm_icmp_ge (tgt := 243) dX12_meltOne_236 (by decide) ⟨by omega, by omega⟩ ⟨by omega, by omega⟩ (fun h15 => ?_) (fun h15 => ?_)
            · refine tm_iconst dX12_meltOne_243 ?_
              refine tm_iast (z := (2640 + ((fAdd (12) (n1) (f) (1) (0) σ).1 62)) - 1) (v := 1) dX12_meltOne_244 (show mT[4]? = some (6, 0, 2860) from rfl) (by omega) (by omega) (by decide) ?_
              refine tm_iinc (q0 := 1) (L' := [(11, .int (iI (n1 + 1))), (12, .int (iI (base + (σ0.2.1 18 ((144 * q) + n1))))), (10, .int (iI mk)), (9, .int (iI to)), (8, .int (iI out)), (7, .int (iI lb)), (6, .int (iI base)), (5, .int (iI f)), (4, .int (iI (220 * r + k))), (0, .ref b), (1, .int (iI r)), (2, .int (iI k)), (3, .int (iI q))]) dX12_meltOne_245 rfl (by decide) rfl ?_
              refine tm_goto (tgt := 99) dX12_meltOne_248 (by decide) ?_
              exact tm_sub [0, 2, 3, 4, 5, 6, 7, 8, 9, 10, 11, 12] rfl (ih _ (by omega) (n1 + 1) (sA 6 ((2640 + ((fAdd (12) (n1) (f) (1) (0) σ).1 62)) - 1) (1) (fAdd (12) (n1) (f) (1) (0) σ)) (((Fr.rfl.trans (Fr.sub hF (by decide) (by decide) (by decide))).trans (Fr.sub fAdd_fr (by decide) (by decide) (by decide))).A (by decide)) ((hR.add (by omega) (by omega) (by omega) (by omega) (by omega) (by omega)).A (by omega)) (by omega) (by have e : (sA 6 ((2640 + ((fAdd (12) (n1) (f) (1) (0) σ).1 62)) - 1) (1) (fAdd (12) (n1) (f) (1) (0) σ)).1 62 = (fAdd (12) (n1) (f) (1) (0) σ).1 62 := rfl; omega) (msg_bind hms (by omega) (by omega) (by omega) (by omega) (by omega) (by omega)) rfl)
            · exact absurd h15 (by omega)
          · exact absurd h9 (by omega)
        · exact absurd h7 (by omega)
      · have har := hmo.ar (n := n1) (hms.2.2.2.2.2.1 (220 * r + k) (by omega)) (by omega) (by omega)
        refine tm_aload_n dX12_meltOne_139 rfl 9 rfl ?_
        refine tm_iconst dX12_meltOne_140 ?_
        refine tm_iload dX12_meltOne_141 0 rfl ?_
        refine tm_iconst dX12_meltOne_143 ?_
        refine tm_aload_n dX12_meltOne_144 rfl 9 rfl ?_
        refine tm_get (k := 7) (v := .ref (b + 1 + 5)) lay_12 dX12_meltOne_145 (by decide) fl12_26 rfl ?_
        refine tm_iconst dX12_meltOne_148 ?_
        refine tm_iload dX12_meltOne_149 8 rfl ?_
        refine tm_imul dX12_meltOne_151 ?_
        refine tm_iload dX12_meltOne_152 1 rfl ?_
        refine tm_iadd dX12_meltOne_154 ?_
        refine tm_iald (z := (4 * (220 * r + k)) + n1) (v := σ.2.1 7 ((4 * (220 * r + k)) + n1)) dX12_meltOne_155 (show mT[5]? = some (7, 0, 11440) from rfl) (by omega) (by omega) (by decide) (rfl) ?_
        have g16 := RG.a hR 7 ((4 * (220 * r + k)) + n1)
        refine tm_aload_n dX12_meltOne_156 rfl 9 rfl ?_
        refine tm_get (k := 8) (v := .ref (b + 1 + 6)) lay_12 dX12_meltOne_157 (by decide) fl12_29 rfl ?_
        refine tm_iconst dX12_meltOne_160 ?_
        refine tm_iload dX12_meltOne_161 8 rfl ?_
        refine tm_imul dX12_meltOne_163 ?_
        refine tm_iload dX12_meltOne_164 1 rfl ?_
        refine tm_iadd dX12_meltOne_166 ?_
        refine tm_iald (z := (4 * (220 * r + k)) + n1) (v := σ.2.1 8 ((4 * (220 * r + k)) + n1)) dX12_meltOne_167 (show mT[6]? = some (8, 0, 11440) from rfl) (by omega) (by omega) (by decide) (rfl) ?_
        have g17 := RG.a hR 8 ((4 * (220 * r + k)) + n1)
        refine tm_callV (M := m_X12_meltOne) (pc := 168) (ix := 515) (M' := m_X12_add) (As := [.int (iI 0), .int (iI (base + (σ0.2.1 18 ((144 * q) + n1)))), .int (iI 0), .int (iI (σ.2.1 7 ((4 * (220 * r + k)) + n1))), .int (iI (σ.2.1 8 ((4 * (220 * r + k)) + n1)))]) (rest := []) dX12_meltOne_168 ok_X12_add im_X12_add se_X12_add ml12_515 np_X12_add rfl rfl (Nat.le_of_ble_eq_true rfl) (Nat.le_of_ble_eq_true rfl) rfl (c_X12_add (d) (σ := σ) (k := 0) (e := base + (σ0.2.1 18 ((144 * q) + n1))) (o := 0) (ak := σ.2.1 7 ((4 * (220 * r + k)) + n1)) (a := σ.2.1 8 ((4 * (220 * r + k)) + n1)) hR (by omega)) (fun r18 σ19 hp => ?_)
        obtain ⟨rfl, f21⟩ := hp
        subst f21
        show Tm _ _ 171 b (fAdd (0) (base + (σ0.2.1 18 ((144 * q) + n1))) (0) (σ.2.1 7 ((4 * (220 * r + k)) + n1)) (σ.2.1 8 ((4 * (220 * r + k)) + n1)) σ) [(12, .int (iI (base + (σ0.2.1 18 ((144 * q) + n1))))), (11, .int (iI n1)), (10, .int (iI mk)), (9, .int (iI to)), (8, .int (iI out)), (7, .int (iI lb)), (6, .int (iI base)), (5, .int (iI f)), (4, .int (iI (220 * r + k))), (0, .ref b), (1, .int (iI r)), (2, .int (iI k)), (3, .int (iI q))] [] _
        have n62a : (fAdd (0) (base + (σ0.2.1 18 ((144 * q) + n1))) (0) (σ.2.1 7 ((4 * (220 * r + k)) + n1)) (σ.2.1 8 ((4 * (220 * r + k)) + n1)) σ).1 62 = σ.1 62 + 1 := fAdd_n
        refine tm_aload_n dX12_meltOne_171 rfl 9 rfl ?_
        refine tm_bipush dX12_meltOne_172 (by decide) ?_
        refine tm_iload dX12_meltOne_174 1 rfl ?_
        refine tm_iload dX12_meltOne_176 7 rfl ?_
        refine tm_iload dX12_meltOne_178 1 rfl ?_
        refine tm_aload_n dX12_meltOne_180 rfl 9 rfl ?_
        refine tm_get (k := 11) (v := .ref (b + 1 + 8)) lay_12 dX12_meltOne_181 (by decide) fl12_35 rfl ?_
        refine tm_iload_n dX12_meltOne_184 rfl 12 rfl ?_
        refine tm_iald (z := q) (v := σ0.2.1 11 q) dX12_meltOne_185 (show mT[8]? = some (11, 0, 6) from rfl) (by omega) (by omega) (by decide) (ra_F fAdd_fr (by decide) (ra_F hF (by decide) (rfl))) ?_
        have g22 := RG.a hR0 11 (q)
        refine tm_icmp_ge (tgt := 193) dX12_meltOne_186 (by decide) ⟨by omega, by omega⟩ ⟨by omega, by omega⟩ (fun h23 => ?_) (fun h23 => ?_)
        · exact absurd h23 (by omega)
        · refine tm_iconst dX12_meltOne_189 ?_
          refine tm_goto (tgt := 194) dX12_meltOne_190 (by decide) ?_
          refine tm_iload dX12_meltOne_194 1 rfl ?_
          refine tm_aload_n dX12_meltOne_196 rfl 9 rfl ?_
          refine tm_get (k := 11) (v := .ref (b + 1 + 8)) lay_12 dX12_meltOne_197 (by decide) fl12_35 rfl ?_
          refine tm_iload_n dX12_meltOne_200 rfl 12 rfl ?_
          refine tm_iald (z := q) (v := σ0.2.1 11 q) dX12_meltOne_201 (show mT[8]? = some (11, 0, 6) from rfl) (by omega) (by omega) (by decide) (ra_F fAdd_fr (by decide) (ra_F hF (by decide) (rfl))) ?_
          have g24 := RG.a hR0 11 (q)
          refine tm_icmp_ge (tgt := 210) dX12_meltOne_202 (by decide) ⟨by omega, by omega⟩ ⟨by omega, by omega⟩ (fun h25 => ?_) (fun h25 => ?_)
          · exact absurd h25 (by omega)
          · refine tm_iload dX12_meltOne_205 0 rfl ?_
            refine tm_goto (tgt := 211) dX12_meltOne_207 (by decide) ?_
            refine tm_callV (M := m_X12_meltOne) (pc := 211) (ix := 515) (M' := m_X12_add) (As := [.int (iI 12), .int (iI n1), .int (iI f), .int (iI 2), .int (iI (base + (σ0.2.1 18 ((144 * q) + n1))))]) (rest := []) dX12_meltOne_211 ok_X12_add im_X12_add se_X12_add ml12_515 np_X12_add rfl rfl (Nat.le_of_ble_eq_true rfl) (Nat.le_of_ble_eq_true rfl) rfl (c_X12_add (d) (σ := (fAdd (0) (base + (σ0.2.1 18 ((144 * q) + n1))) (0) (σ.2.1 7 ((4 * (220 * r + k)) + n1)) (σ.2.1 8 ((4 * (220 * r + k)) + n1)) σ)) (k := 12) (e := n1) (o := f) (ak := 2) (a := base + (σ0.2.1 18 ((144 * q) + n1))) (hR.add (by omega) (by omega) (by omega) (by omega) (by omega) (by omega)) (by omega)) (fun r26 σ27 hp => ?_)
            obtain ⟨rfl, f29⟩ := hp
            subst f29
            show Tm _ _ 214 b (fAdd (12) (n1) (f) (2) (base + (σ0.2.1 18 ((144 * q) + n1))) (fAdd (0) (base + (σ0.2.1 18 ((144 * q) + n1))) (0) (σ.2.1 7 ((4 * (220 * r + k)) + n1)) (σ.2.1 8 ((4 * (220 * r + k)) + n1)) σ)) [(12, .int (iI (base + (σ0.2.1 18 ((144 * q) + n1))))), (11, .int (iI n1)), (10, .int (iI mk)), (9, .int (iI to)), (8, .int (iI out)), (7, .int (iI lb)), (6, .int (iI base)), (5, .int (iI f)), (4, .int (iI (220 * r + k))), (0, .ref b), (1, .int (iI r)), (2, .int (iI k)), (3, .int (iI q))] [] _
            have n62b : (fAdd (12) (n1) (f) (2) (base + (σ0.2.1 18 ((144 * q) + n1))) (fAdd (0) (base + (σ0.2.1 18 ((144 * q) + n1))) (0) (σ.2.1 7 ((4 * (220 * r + k)) + n1)) (σ.2.1 8 ((4 * (220 * r + k)) + n1)) σ)).1 62 = (fAdd (0) (base + (σ0.2.1 18 ((144 * q) + n1))) (0) (σ.2.1 7 ((4 * (220 * r + k)) + n1)) (σ.2.1 8 ((4 * (220 * r + k)) + n1)) σ).1 62 + 1 := fAdd_n
            refine tm_aload_n dX12_meltOne_214 rfl 9 rfl ?_
            refine tm_get (k := 6) (v := .ref (b + 1 + 4)) lay_12 dX12_meltOne_215 (by decide) fl12_23 rfl ?_
            refine tm_sipush dX12_meltOne_218 (by decide) ?_
            refine tm_aload_n dX12_meltOne_221 rfl 9 rfl ?_
            refine tm_getS (k := 62) (t := (fAdd (12) (n1) (f) (2) (base + (σ0.2.1 18 ((144 * q) + n1))) (fAdd (0) (base + (σ0.2.1 18 ((144 * q) + n1))) (0) (σ.2.1 7 ((4 * (220 * r + k)) + n1)) (σ.2.1 8 ((4 * (220 * r + k)) + n1)) σ)).1 62) dX12_meltOne_222 (by decide) fl12_509 rfl (rfl) ?_
            refine tm_iadd dX12_meltOne_225 ?_
            refine tm_iconst dX12_meltOne_226 ?_
            refine tm_isub dX12_meltOne_227 ?_
            refine tm_iload dX12_meltOne_228 1 rfl ?_
            refine tm_aload_n dX12_meltOne_230 rfl 9 rfl ?_
            refine tm_get (k := 11) (v := .ref (b + 1 + 8)) lay_12 dX12_meltOne_231 (by decide) fl12_35 rfl ?_
            refine tm_iload_n dX12_meltOne_234 rfl 12 rfl ?_
            refine tm_iald (z := q) (v := σ0.2.1 11 q) dX12_meltOne_235 (show mT[8]? = some (11, 0, 6) from rfl) (by omega) (by omega) (by decide) (ra_F fAdd_fr (by decide) (ra_F fAdd_fr (by decide) (ra_F hF (by decide) (rfl)))) ?_
            have g30 := RG.a hR0 11 (q)
            refine tm_icmp_ge (tgt := 243) dX12_meltOne_236 (by decide) ⟨by omega, by omega⟩ ⟨by omega, by omega⟩ (fun h31 => ?_) (fun h31 => ?_)
            · exact absurd h31 (by omega)
            · refine tm_iconst dX12_meltOne_239 ?_
              refine tm_goto (tgt := 244) dX12_meltOne_240 (by decide) ?_
              refine tm_iast (z := (2640 + ((fAdd (12) (n1) (f) (2) (base + (σ0.2.1 18 ((144 * q) + n1))) (fAdd (0) (base + (σ0.2.1 18 ((144 * q) + n1))) (0) (σ.2.1 7 ((4 * (220 * r + k)) + n1)) (σ.2.1 8 ((4 * (220 * r + k)) + n1)) σ)).1 62)) - 1) (v := 2) dX12_meltOne_244 (show mT[4]? = some (6, 0, 2860) from rfl) (by omega) (by omega) (by decide) ?_
              refine tm_iinc (q0 := 1) (L' := [(11, .int (iI (n1 + 1))), (12, .int (iI (base + (σ0.2.1 18 ((144 * q) + n1))))), (10, .int (iI mk)), (9, .int (iI to)), (8, .int (iI out)), (7, .int (iI lb)), (6, .int (iI base)), (5, .int (iI f)), (4, .int (iI (220 * r + k))), (0, .ref b), (1, .int (iI r)), (2, .int (iI k)), (3, .int (iI q))]) dX12_meltOne_245 rfl (by decide) rfl ?_
              refine tm_goto (tgt := 99) dX12_meltOne_248 (by decide) ?_
              exact tm_sub [0, 2, 3, 4, 5, 6, 7, 8, 9, 10, 11, 12] rfl (ih _ (by omega) (n1 + 1) (sA 6 ((2640 + ((fAdd (12) (n1) (f) (2) (base + (σ0.2.1 18 ((144 * q) + n1))) (fAdd (0) (base + (σ0.2.1 18 ((144 * q) + n1))) (0) (σ.2.1 7 ((4 * (220 * r + k)) + n1)) (σ.2.1 8 ((4 * (220 * r + k)) + n1)) σ)).1 62)) - 1) (2) (fAdd (12) (n1) (f) (2) (base + (σ0.2.1 18 ((144 * q) + n1))) (fAdd (0) (base + (σ0.2.1 18 ((144 * q) + n1))) (0) (σ.2.1 7 ((4 * (220 * r + k)) + n1)) (σ.2.1 8 ((4 * (220 * r + k)) + n1)) σ))) ((((Fr.rfl.trans (Fr.sub hF (by decide) (by decide) (by decide))).trans (Fr.sub fAdd_fr (by decide) (by decide) (by decide))).trans (Fr.sub fAdd_fr (by decide) (by decide) (by decide))).A (by decide)) (((hR.add (by omega) (by omega) (by omega) (by omega) (by omega) (by omega)).add (by omega) (by omega) (by omega) (by omega) (by omega) (by omega)).A (by omega)) (by omega) (by have e : (sA 6 ((2640 + ((fAdd (12) (n1) (f) (2) (base + (σ0.2.1 18 ((144 * q) + n1))) (fAdd (0) (base + (σ0.2.1 18 ((144 * q) + n1))) (0) (σ.2.1 7 ((4 * (220 * r + k)) + n1)) (σ.2.1 8 ((4 * (220 * r + k)) + n1)) σ)).1 62)) - 1) (2) (fAdd (12) (n1) (f) (2) (base + (σ0.2.1 18 ((144 * q) + n1))) (fAdd (0) (base + (σ0.2.1 18 ((144 * q) + n1))) (0) (σ.2.1 7 ((4 * (220 * r + k)) + n1)) (σ.2.1 8 ((4 * (220 * r + k)) + n1)) σ))).1 62 = (fAdd (12) (n1) (f) (2) (base + (σ0.2.1 18 ((144 * q) + n1))) (fAdd (0) (base + (σ0.2.1 18 ((144 * q) + n1))) (0) (σ.2.1 7 ((4 * (220 * r + k)) + n1)) (σ.2.1 8 ((4 * (220 * r + k)) + n1)) σ)).1 62 := rfl; omega) (msg_bind (msg_copy hms (by omega) (by omega) (by omega) (by omega)) (by omega) (by omega) (by omega) (by omega) (by omega) (by omega)) rfl)
theorem dX12_meltOne_254 : decode cX12_meltOne 254 = .ok (.iload 11, 2) := by decide +kernel
theorem dX12_meltOne_256 : decode cX12_meltOne 256 = .ok (.sipush 192, 3) := by decide +kernel
theorem dX12_meltOne_259 : decode cX12_meltOne 259 = .ok (.if_icmp .ge 42, 3) := by decide +kernel
theorem dX12_meltOne_262 : decode cX12_meltOne 262 = .ok (.aload_n 0, 1) := by decide +kernel
theorem dX12_meltOne_263 : decode cX12_meltOne 263 = .ok (.getfield 130, 3) := by decide +kernel
theorem dX12_meltOne_266 : decode cX12_meltOne 266 = .ok (.iload 11, 2) := by decide +kernel
theorem dX12_meltOne_268 : decode cX12_meltOne 268 = .ok (.baload, 1) := by decide +kernel
theorem dX12_meltOne_269 : decode cX12_meltOne 269 = .ok (.ifCond .eq 26, 3) := by decide +kernel
theorem dX12_meltOne_295 : decode cX12_meltOne 295 = .ok (.iinc 11 1, 3) := by decide +kernel
theorem dX12_meltOne_298 : decode cX12_meltOne 298 = .ok (.goto (-44), 3) := by decide +kernel
theorem dX12_meltOne_272 : decode cX12_meltOne 272 = .ok (.aload_n 0, 1) := by decide +kernel
theorem dX12_meltOne_273 : decode cX12_meltOne 273 = .ok (.iload_n 3, 1) := by decide +kernel
theorem dX12_meltOne_274 : decode cX12_meltOne 274 = .ok (.iload 11, 2) := by decide +kernel
theorem dX12_meltOne_276 : decode cX12_meltOne 276 = .ok (.invokevirtual 503, 3) := by decide +kernel
theorem dX12_meltOne_279 : decode cX12_meltOne 279 = .ok (.ifCond .ne 16, 3) := by decide +kernel
theorem dX12_meltOne_282 : decode cX12_meltOne 282 = .ok (.aload_n 0, 1) := by decide +kernel
theorem dX12_meltOne_283 : decode cX12_meltOne 283 = .ok (.iconst 0, 1) := by decide +kernel
theorem dX12_meltOne_284 : decode cX12_meltOne 284 = .ok (.iload 6, 2) := by decide +kernel
theorem dX12_meltOne_286 : decode cX12_meltOne 286 = .ok (.iload 11, 2) := by decide +kernel
theorem dX12_meltOne_288 : decode cX12_meltOne 288 = .ok (.iadd, 1) := by decide +kernel
theorem dX12_meltOne_289 : decode cX12_meltOne 289 = .ok (.iconst 0, 1) := by decide +kernel
theorem dX12_meltOne_290 : decode cX12_meltOne 290 = .ok (.iconst 1, 1) := by decide +kernel
theorem dX12_meltOne_291 : decode cX12_meltOne 291 = .ok (.iconst 0, 1) := by decide +kernel
theorem dX12_meltOne_292 : decode cX12_meltOne 292 = .ok (.invokevirtual 515, 3) := by decide +kernel
set_option maxHeartbeats 2000000 in
set_option maxRecDepth 20000 in
theorem l_mo3 (d : Nat) {b : Nat} {σ0 : MS} {r : Int} {k : Int} {q : Int} {f : Int} {base : Int} {lb : Int} {out : Int} {to : Int} {ρ : MS} {FI : Int → Int} {lf : Int → Int} {frq : Int → Int} {lfq : Int → Int} {g0 : Int} {m : Int} {mk : Int} {A1 : Int} {post : Option Value → MS → Prop} (hmo : MOH ρ r k q f base lb out to g0 m FI lf frq lfq) (hR0 : RG σ0) (hρ : Fr [62] [3, 4, 5, 6, 7, 8] [] ρ σ0) (hbl : BO 59 ρ) (hlv : ∀ g, 0 ≤ g → g < 192 → ρ.2.1 59 g = 1 → g < m) (hA : 1 ≤ A1 ∧ A1 + cnt (lcf ρ q) 192 ≤ 217) (hx_301 : ∀ (g : Int) (σ : MS) , (Fr [62] [3, 4, 5, 6, 7, 8] [] σ0 σ) → (RG σ) → (σ.1 62 = A1 + cnt (lcf ρ q) 192) → (MSG ρ σ FI lf q (f + ρ.2.1 14 q) lb out g0 (σ.1 62) 0 (f)) → Tm (d + 3) m_X12_meltOne 301 b σ [(10, .int (iI mk)), (9, .int (iI to)), (8, .int (iI out)), (7, .int (iI lb)), (6, .int (iI base)), (5, .int (iI f)), (4, .int (iI (220 * r + k))), (0, .ref b), (1, .int (iI r)), (2, .int (iI k)), (3, .int (iI q))] [] post) : ∀ (n : Nat) (g : Int) (σ : MS) , (Fr [62] [3, 4, 5, 6, 7, 8] [] σ0 σ) → (RG σ) → (0 ≤ g ∧ g ≤ 192) → (σ.1 62 = A1 + cnt (lcf ρ q) g.toNat) → (MSG ρ σ FI lf q (f + ρ.2.1 14 q) lb out g0 (σ.1 62) 0 (f)) → (192 - g).toNat = n → Tm (d + 3) m_X12_meltOne 254 b σ [(11, .int (iI g)), (10, .int (iI mk)), (9, .int (iI to)), (8, .int (iI out)), (7, .int (iI lb)), (6, .int (iI base)), (5, .int (iI f)), (4, .int (iI (220 * r + k))), (0, .ref b), (1, .int (iI r)), (2, .int (iI k)), (3, .int (iI q))] [] post := by
  intro n
  induction n using Nat.strongRecOn with
  | _ n ih =>
    intro g σ hF hR h0 hc hms hm
    have mn := hmo.n
    have mpa := hmo.2.2.2.2.2.2.2.2.2.1 q (by omega) (by omega)
    have e59 : σ0.2.1 59 g = ρ.2.1 59 g := by rw [hρ.2.1 59 (by decide)]
    have hb59 := hbl g
    have hup := cnt_up (lcf_0 ρ q) (show g.toNat ≤ 192 by omega)
    have hc0 := cnt_up (lcf_0 ρ q) (show 0 ≤ g.toNat by omega)
    have hcz : cnt (lcf ρ q) 0 = 0 := rfl
    have hr1 : Fr [62] [3, 4, 5, 6, 7, 8] [] ρ σ := hρ.trans hF
    refine tm_iload dX12_meltOne_254 0 rfl ?_
    refine tm_sipush dX12_meltOne_256 (by decide) ?_
    refine tm_icmp_ge (tgt := 301) dX12_meltOne_259 (by decide) ⟨by omega, by omega⟩ ⟨by decide, by decide⟩ (fun h1 => ?_) (fun h1 => ?_)
    · exact tm_sub [1, 2, 3, 4, 5, 6, 7, 8, 9, 10, 11] rfl (hx_301 (0) σ (Fr.rfl.trans (Fr.sub hF (by decide) (by decide) (by decide))) hR (by rw [show g.toNat = 192 by omega] at hc; exact hc) hms)
    · refine tm_aload_n dX12_meltOne_262 rfl 8 rfl ?_
      refine tm_get (k := 59) (v := .ref (b + 1 + 37)) lay_12 dX12_meltOne_263 (by decide) fl12_130 rfl ?_
      refine tm_iload dX12_meltOne_266 0 rfl ?_
      refine tm_zald (z := g) (v := σ0.2.1 59 g) dX12_meltOne_268 (show mT[37]? = some (59, 2, 42432) from rfl) (by omega) (by omega) (by decide) (ra_F hF (by decide) (rfl)) ?_
      have g2 := RG.a hR0 59 (g)
      refine tm_if_eq (tgt := 295) dX12_meltOne_269 (by decide) ⟨by omega, by omega⟩ (fun h3 => ?_) (fun h3 => ?_)
      · refine tm_iinc (q0 := 0) (L' := [(11, .int (iI (g + 1))), (10, .int (iI mk)), (9, .int (iI to)), (8, .int (iI out)), (7, .int (iI lb)), (6, .int (iI base)), (5, .int (iI f)), (4, .int (iI (220 * r + k))), (0, .ref b), (1, .int (iI r)), (2, .int (iI k)), (3, .int (iI q))]) dX12_meltOne_295 rfl (by decide) rfl ?_
        refine tm_goto (tgt := 254) dX12_meltOne_298 (by decide) ?_
        exact tm_sub [0, 1, 2, 3, 4, 5, 6, 7, 8, 9, 10, 11] rfl (ih _ (by omega) (g + 1) σ (Fr.rfl.trans (Fr.sub hF (by decide) (by decide) (by decide))) hR (by omega) (by rw [cnt_s (by omega), show lcf ρ q g = 0 from by first | exact lcf_n (by omega) | exact lcf_p (by omega) (hP.mp (by omega))]; omega) hms rfl)
      · refine tm_aload_n dX12_meltOne_272 rfl 8 rfl ?_
        refine tm_iload_n dX12_meltOne_273 rfl 11 rfl ?_
        refine tm_iload dX12_meltOne_274 0 rfl ?_
        refine tm_callV (M := m_X12_meltOne) (pc := 276) (ix := 503) (M' := m_X12_isParam) (As := [.int (iI q), .int (iI g)]) (rest := []) dX12_meltOne_276 ok_X12_isParam im_X12_isParam se_X12_isParam ml12_503 np_X12_isParam rfl rfl (Nat.le_of_ble_eq_true rfl) (Nat.le_of_ble_eq_true rfl) rfl (c_X12_isParam (d + 1) (σ := σ) (r := q) (g := g) (by omega) hR (PAR.fr hmo.2.2.2.2.2.2.2.2.2.1 hr1 (by decide)) (by omega)) (fun r4 σ5 hp => ?_)
        obtain ⟨v6, rfl, rfl, f7, f8⟩ := hp
        show Tm _ _ 279 b σ [(11, .int (iI g)), (10, .int (iI mk)), (9, .int (iI to)), (8, .int (iI out)), (7, .int (iI lb)), (6, .int (iI base)), (5, .int (iI f)), (4, .int (iI (220 * r + k))), (0, .ref b), (1, .int (iI r)), (2, .int (iI k)), (3, .int (iI q))] [.int (iI v6)] _
        have hP : v6 = 1 ↔ PMQ ρ q g := by
          have h := f8
          rw [hr1.2.1 11 (by decide), hr1.2.1 18 (by decide)] at h
          exact h
        clear f8
        refine tm_if_ne (tgt := 295) dX12_meltOne_279 (by decide) ⟨by omega, by omega⟩ (fun h9 => ?_) (fun h9 => ?_)
        · refine tm_iinc (q0 := 0) (L' := [(11, .int (iI (g + 1))), (10, .int (iI mk)), (9, .int (iI to)), (8, .int (iI out)), (7, .int (iI lb)), (6, .int (iI base)), (5, .int (iI f)), (4, .int (iI (220 * r + k))), (0, .ref b), (1, .int (iI r)), (2, .int (iI k)), (3, .int (iI q))]) dX12_meltOne_295 rfl (by decide) rfl ?_
          refine tm_goto (tgt := 254) dX12_meltOne_298 (by decide) ?_
          exact tm_sub [0, 1, 2, 3, 4, 5, 6, 7, 8, 9, 10, 11] rfl (ih _ (by omega) (g + 1) σ (Fr.rfl.trans (Fr.sub hF (by decide) (by decide) (by decide))) hR (by omega) (by rw [cnt_s (by omega), show lcf ρ q g = 0 from by first | exact lcf_n (by omega) | exact lcf_p (by omega) (hP.mp (by omega))]; omega) hms rfl)
        · have hgm := hlv g (by omega) (by omega) (by omega)
          refine tm_aload_n dX12_meltOne_282 rfl 8 rfl ?_
          refine tm_iconst dX12_meltOne_283 ?_
          refine tm_iload dX12_meltOne_284 5 rfl ?_
          refine tm_iload dX12_meltOne_286 0 rfl ?_
          refine tm_iadd dX12_meltOne_288 ?_
          refine tm_iconst dX12_meltOne_289 ?_
          refine tm_iconst dX12_meltOne_290 ?_
          refine tm_iconst dX12_meltOne_291 ?_
          refine tm_callV (M := m_X12_meltOne) (pc := 292) (ix := 515) (M' := m_X12_add) (As := [.int (iI 0), .int (iI (base + g)), .int (iI 0), .int (iI 1), .int (iI 0)]) (rest := []) dX12_meltOne_292 ok_X12_add im_X12_add se_X12_add ml12_515 np_X12_add rfl rfl (Nat.le_of_ble_eq_true rfl) (Nat.le_of_ble_eq_true rfl) rfl (c_X12_add (d) (σ := σ) (k := 0) (e := base + g) (o := 0) (ak := 1) (a := 0) hR (by omega)) (fun r10 σ11 hp => ?_)
          obtain ⟨rfl, f13⟩ := hp
          subst f13
          show Tm _ _ 295 b (fAdd (0) (base + g) (0) (1) (0) σ) [(11, .int (iI g)), (10, .int (iI mk)), (9, .int (iI to)), (8, .int (iI out)), (7, .int (iI lb)), (6, .int (iI base)), (5, .int (iI f)), (4, .int (iI (220 * r + k))), (0, .ref b), (1, .int (iI r)), (2, .int (iI k)), (3, .int (iI q))] [] _
          have n62a : (fAdd (0) (base + g) (0) (1) (0) σ).1 62 = σ.1 62 + 1 := fAdd_n
          refine tm_iinc (q0 := 0) (L' := [(11, .int (iI (g + 1))), (10, .int (iI mk)), (9, .int (iI to)), (8, .int (iI out)), (7, .int (iI lb)), (6, .int (iI base)), (5, .int (iI f)), (4, .int (iI (220 * r + k))), (0, .ref b), (1, .int (iI r)), (2, .int (iI k)), (3, .int (iI q))]) dX12_meltOne_295 rfl (by decide) rfl ?_
          refine tm_goto (tgt := 254) dX12_meltOne_298 (by decide) ?_
          exact tm_sub [0, 1, 2, 3, 4, 5, 6, 7, 8, 9, 10, 11] rfl (ih _ (by omega) (g + 1) (fAdd (0) (base + g) (0) (1) (0) σ) ((Fr.rfl.trans (Fr.sub hF (by decide) (by decide) (by decide))).trans (Fr.sub fAdd_fr (by decide) (by decide) (by decide))) (hR.add (by omega) (by omega) (by omega) (by omega) (by omega) (by omega)) (by omega) (by rw [cnt_s (by omega), lcf_y (by omega) (fun w => absurd (hP.mpr w) (by omega))]; omega) (msg_copy hms (by omega) (by omega) (by omega) (by omega)) rfl)
theorem ml12_518 : Cond.methodLink RX12 518 yX12_meltItem ∈ pWW := pw9 (List.mem_of_getElem? (i := 205) rfl) rfl
theorem dX12_meltOne_304 : decode cX12_meltOne 304 = .ok (.iload 11, 2) := by decide +kernel
theorem dX12_meltOne_306 : decode cX12_meltOne 306 = .ok (.aload_n 0, 1) := by decide +kernel
theorem dX12_meltOne_307 : decode cX12_meltOne 307 = .ok (.getfield 32, 3) := by decide +kernel
theorem dX12_meltOne_310 : decode cX12_meltOne 310 = .ok (.iload_n 3, 1) := by decide +kernel
theorem dX12_meltOne_311 : decode cX12_meltOne 311 = .ok (.iaload, 1) := by decide +kernel
theorem dX12_meltOne_312 : decode cX12_meltOne 312 = .ok (.if_icmp .ge 30, 3) := by decide +kernel
theorem dX12_meltOne_315 : decode cX12_meltOne 315 = .ok (.aload_n 0, 1) := by decide +kernel
theorem dX12_meltOne_316 : decode cX12_meltOne 316 = .ok (.aload_n 0, 1) := by decide +kernel
theorem dX12_meltOne_317 : decode cX12_meltOne 317 = .ok (.iload_n 3, 1) := by decide +kernel
theorem dX12_meltOne_318 : decode cX12_meltOne 318 = .ok (.iload 11, 2) := by decide +kernel
theorem dX12_meltOne_320 : decode cX12_meltOne 320 = .ok (.invokevirtual 203, 3) := by decide +kernel
theorem dX12_meltOne_323 : decode cX12_meltOne 323 = .ok (.iload 5, 2) := by decide +kernel
theorem dX12_meltOne_325 : decode cX12_meltOne 325 = .ok (.iload 6, 2) := by decide +kernel
theorem dX12_meltOne_327 : decode cX12_meltOne 327 = .ok (.iload 7, 2) := by decide +kernel
theorem dX12_meltOne_329 : decode cX12_meltOne 329 = .ok (.iload 9, 2) := by decide +kernel
theorem dX12_meltOne_331 : decode cX12_meltOne 331 = .ok (.iload 8, 2) := by decide +kernel
theorem dX12_meltOne_333 : decode cX12_meltOne 333 = .ok (.invokevirtual 518, 3) := by decide +kernel
theorem dX12_meltOne_336 : decode cX12_meltOne 336 = .ok (.iinc 11 1, 3) := by decide +kernel
theorem dX12_meltOne_339 : decode cX12_meltOne 339 = .ok (.goto (-35), 3) := by decide +kernel
set_option maxHeartbeats 2000000 in
set_option maxRecDepth 20000 in
theorem l_mo4 (d : Nat) {b : Nat} {σ0 : MS} {r : Int} {k : Int} {q : Int} {f : Int} {base : Int} {lb : Int} {out : Int} {to : Int} {ρ : MS} {FI : Int → Int} {lf : Int → Int} {frq : Int → Int} {lfq : Int → Int} {g0 : Int} {m : Int} {mk : Int} {A2 : Int} {post : Option Value → MS → Prop} (hmo : MOH ρ r k q f base lb out to g0 m FI lf frq lfq) (hR0 : RG σ0) (hρ : Fr [62] [3, 4, 5, 6, 7, 8] [] ρ σ0) (hA : 1 ≤ A2 ∧ A2 + ρ.2.1 9 q + cnt (rcf ρ q) (ρ.2.1 9 q).toNat ≤ 217) (hx_342 : ∀ (i : Int) (σ : MS) , (Fr [62] [3, 4, 5, 6, 7, 8] [] σ0 σ) → (RG σ) → (σ.1 62 = A2 + ρ.2.1 9 q + cnt (rcf ρ q) (ρ.2.1 9 q).toNat) → (MSG ρ σ FI lf q (f + ρ.2.1 14 q) lb out g0 (σ.1 62) (ρ.2.1 9 q) (Gq ρ q f frq (ρ.2.1 9 q))) → Tm (d + 4) m_X12_meltOne 342 b σ [(10, .int (iI mk)), (9, .int (iI to)), (8, .int (iI out)), (7, .int (iI lb)), (6, .int (iI base)), (5, .int (iI f)), (4, .int (iI (220 * r + k))), (0, .ref b), (1, .int (iI r)), (2, .int (iI k)), (3, .int (iI q))] [] post) : ∀ (n : Nat) (i : Int) (σ : MS) , (Fr [62] [3, 4, 5, 6, 7, 8] [] σ0 σ) → (RG σ) → (0 ≤ i ∧ i ≤ ρ.2.1 9 q) → (σ.1 62 = A2 + i + cnt (rcf ρ q) i.toNat) → (MSG ρ σ FI lf q (f + ρ.2.1 14 q) lb out g0 (σ.1 62) i (Gq ρ q f frq i)) → (220 - i).toNat = n → Tm (d + 4) m_X12_meltOne 304 b σ [(11, .int (iI i)), (10, .int (iI mk)), (9, .int (iI to)), (8, .int (iI out)), (7, .int (iI lb)), (6, .int (iI base)), (5, .int (iI f)), (4, .int (iI (220 * r + k))), (0, .ref b), (1, .int (iI r)), (2, .int (iI k)), (3, .int (iI q))] [] post := by
  intro n
  induction n using Nat.strongRecOn with
  | _ n ih =>
    intro i σ hF hR h0 hc hms hm
    have mn := hmo.n
    have e9 : σ0.2.1 9 q = ρ.2.1 9 q := by rw [hρ.2.1 9 (by decide)]
    have hup := cnt_up (rcf_0 ρ q) (show i.toNat ≤ (ρ.2.1 9 q).toNat by omega)
    have hc0 := cnt_up (rcf_0 ρ q) (show 0 ≤ i.toNat by omega)
    have hcz : cnt (rcf ρ q) 0 = 0 := rfl
    refine tm_iload dX12_meltOne_304 0 rfl ?_
    refine tm_aload_n dX12_meltOne_306 rfl 8 rfl ?_
    refine tm_get (k := 9) (v := .ref (b + 1 + 7)) lay_12 dX12_meltOne_307 (by decide) fl12_32 rfl ?_
    refine tm_iload_n dX12_meltOne_310 rfl 11 rfl ?_
    refine tm_iald (z := q) (v := σ0.2.1 9 q) dX12_meltOne_311 (show mT[7]? = some (9, 0, 13) from rfl) (by omega) (by omega) (by decide) (ra_F hF (by decide) (rfl)) ?_
    have g1 := RG.a hR0 9 (q)
    refine tm_icmp_ge (tgt := 342) dX12_meltOne_312 (by decide) ⟨by omega, by omega⟩ ⟨by omega, by omega⟩ (fun h2 => ?_) (fun h2 => ?_)
    · exact tm_sub [1, 2, 3, 4, 5, 6, 7, 8, 9, 10, 11] rfl (hx_342 (0) σ (Fr.rfl.trans (Fr.sub hF (by decide) (by decide) (by decide))) hR (by rw [show i = ρ.2.1 9 q by omega] at hc; exact hc) (by rw [show i = ρ.2.1 9 q by omega] at hms; exact hms))
    · refine tm_aload_n dX12_meltOne_315 rfl 8 rfl ?_
      refine tm_aload_n dX12_meltOne_316 rfl 8 rfl ?_
      refine tm_iload_n dX12_meltOne_317 rfl 11 rfl ?_
      refine tm_iload dX12_meltOne_318 0 rfl ?_
      refine tm_callV (M := m_X12_meltOne) (pc := 320) (ix := 203) (M' := m_X12_at) (As := [.int (iI q), .int (iI i)]) (rest := [.ref b]) dX12_meltOne_320 ok_X12_at im_X12_at se_X12_at ml12_203 np_X12_at rfl rfl (Nat.le_of_ble_eq_true rfl) (Nat.le_of_ble_eq_true rfl) rfl (c_X12_at (d + 2) (σ := σ) (x := q) (k := i) ) (fun r3 σ4 hp => ?_)
      obtain ⟨v5, rfl, rfl, f6⟩ := hp
      subst f6
      show Tm _ _ 323 b σ [(11, .int (iI i)), (10, .int (iI mk)), (9, .int (iI to)), (8, .int (iI out)), (7, .int (iI lb)), (6, .int (iI base)), (5, .int (iI f)), (4, .int (iI (220 * r + k))), (0, .ref b), (1, .int (iI r)), (2, .int (iI k)), (3, .int (iI q))] [.int (iI (220 * q + i)), .ref b] _
      refine tm_iload dX12_meltOne_323 6 rfl ?_
      refine tm_iload dX12_meltOne_325 5 rfl ?_
      refine tm_iload dX12_meltOne_327 4 rfl ?_
      refine tm_iload dX12_meltOne_329 2 rfl ?_
      refine tm_iload dX12_meltOne_331 3 rfl ?_
      refine tm_callV (M := m_X12_meltOne) (pc := 333) (ix := 518) (M' := m_X12_meltItem) (As := [.int (iI (220 * q + i)), .int (iI f), .int (iI base), .int (iI lb), .int (iI to), .int (iI out)]) (rest := []) dX12_meltOne_333 ok_X12_meltItem im_X12_meltItem se_X12_meltItem ml12_518 np_X12_meltItem rfl rfl (Nat.le_of_ble_eq_true rfl) (Nat.le_of_ble_eq_true rfl) rfl (c_X12_meltItem (d) (σ := σ) (x := 220 * q + i) (f := f) (base := base) (lb := lb) (to := to) (out := out) (ρ := ρ) (FI := FI) (lf := lf) (frq := frq) (lfq := lfq) (q := q) (i := i) (g0 := g0) (m := m) hR rfl (by omega) (by omega) (hmo.mih hms (by omega) (by omega)) (by omega)) (fun r7 σ8 hp => ?_)
      obtain ⟨rfl, f10, f11, f12, f13⟩ := hp
      show Tm _ _ 336 b σ8 [(11, .int (iI i)), (10, .int (iI mk)), (9, .int (iI to)), (8, .int (iI out)), (7, .int (iI lb)), (6, .int (iI base)), (5, .int (iI f)), (4, .int (iI (220 * r + k))), (0, .ref b), (1, .int (iI r)), (2, .int (iI k)), (3, .int (iI q))] [] _
      refine tm_iinc (q0 := 0) (L' := [(11, .int (iI (i + 1))), (10, .int (iI mk)), (9, .int (iI to)), (8, .int (iI out)), (7, .int (iI lb)), (6, .int (iI base)), (5, .int (iI f)), (4, .int (iI (220 * r + k))), (0, .ref b), (1, .int (iI r)), (2, .int (iI k)), (3, .int (iI q))]) dX12_meltOne_336 rfl (by decide) rfl ?_
      refine tm_goto (tgt := 304) dX12_meltOne_339 (by decide) ?_
      exact tm_sub [0, 1, 2, 3, 4, 5, 6, 7, 8, 9, 10, 11] rfl (ih _ (by omega) (i + 1) σ8 ((Fr.rfl.trans (Fr.sub hF (by decide) (by decide) (by decide))).trans (Fr.sub f10 (by decide) (by decide) (by decide))) f11 (by omega) (by rw [cnt_s (by omega), show rcf ρ q i = (if ρ.2.1 3 (220 * q + i) = 7 then 1 else 0) from rfl]; have e := f12; split at e <;> split <;> omega) f13 rfl)
