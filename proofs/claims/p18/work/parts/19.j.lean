section
theorem dX12_read_81 : decode cX12_read 81 = .ok (.iload_n 2, 1) := by decide +kernel
theorem dX12_read_82 : decode cX12_read 82 = .ok (.aload_n 0, 1) := by decide +kernel
theorem dX12_read_83 : decode cX12_read 83 = .ok (.getfield 391, 3) := by decide +kernel
theorem dX12_read_86 : decode cX12_read 86 = .ok (.if_icmp .ge 33, 3) := by decide +kernel
theorem dX12_read_89 : decode cX12_read 89 = .ok (.aload_n 0, 1) := by decide +kernel
theorem dX12_read_90 : decode cX12_read 90 = .ok (.getfield 38, 3) := by decide +kernel
theorem dX12_read_93 : decode cX12_read 93 = .ok (.iload_n 2, 1) := by decide +kernel
theorem dX12_read_94 : decode cX12_read 94 = .ok (.aload_n 0, 1) := by decide +kernel
theorem dX12_read_95 : decode cX12_read 95 = .ok (.getfield 63, 3) := by decide +kernel
theorem dX12_read_98 : decode cX12_read 98 = .ok (.iload_n 2, 1) := by decide +kernel
theorem dX12_read_99 : decode cX12_read 99 = .ok (.iaload, 1) := by decide +kernel
theorem dX12_read_100 : decode cX12_read 100 = .ok (.iastore, 1) := by decide +kernel
theorem dX12_read_101 : decode cX12_read 101 = .ok (.aload_n 0, 1) := by decide +kernel
theorem dX12_read_102 : decode cX12_read 102 = .ok (.getfield 35, 3) := by decide +kernel
theorem dX12_read_105 : decode cX12_read 105 = .ok (.iload_n 2, 1) := by decide +kernel
theorem dX12_read_106 : decode cX12_read 106 = .ok (.aload_n 0, 1) := by decide +kernel
theorem dX12_read_107 : decode cX12_read 107 = .ok (.getfield 66, 3) := by decide +kernel
theorem dX12_read_110 : decode cX12_read 110 = .ok (.iload_n 2, 1) := by decide +kernel
theorem dX12_read_111 : decode cX12_read 111 = .ok (.iaload, 1) := by decide +kernel
theorem dX12_read_112 : decode cX12_read 112 = .ok (.iastore, 1) := by decide +kernel
theorem dX12_read_113 : decode cX12_read 113 = .ok (.iinc 2 1, 3) := by decide +kernel
theorem dX12_read_116 : decode cX12_read 116 = .ok (.goto (-35), 3) := by decide +kernel
set_option maxHeartbeats 4000000 in
set_option maxRecDepth 20000 in
theorem l_rd81 (d : Nat) {b : Nat} {σ0 : MS} {c1 : Int} {post : Option Value → MS → Prop} (hR0 : RG σ0) (hN : 0 ≤ σ0.1 10 ∧ σ0.1 10 ≤ 6) (hx_119 : ∀ (i : Int) (σ : MS) , (Fr [] [11, 12] [] σ0 σ) → (RG σ) → (∀ r, 0 ≤ r → r < σ0.1 10 → σ.2.1 12 r = σ0.2.1 35 r ∧ σ.2.1 11 r = σ0.2.1 36 r) → (∀ r, σ0.1 10 ≤ r → σ.2.1 12 r = σ0.2.1 12 r ∧ σ.2.1 11 r = σ0.2.1 11 r) → Tm (d + 1) m_X12_read 119 b σ [(2, .int (iI i)), (1, .int (iI c1)), (0, .ref b)] [] post) : ∀ (n : Nat) (i : Int) (σ : MS) , (Fr [] [11, 12] [] σ0 σ) → (RG σ) → (0 ≤ i ∧ i ≤ σ0.1 10) → (∀ r, 0 ≤ r → r < i → σ.2.1 12 r = σ0.2.1 35 r ∧ σ.2.1 11 r = σ0.2.1 36 r) → (∀ r, i ≤ r → σ.2.1 12 r = σ0.2.1 12 r ∧ σ.2.1 11 r = σ0.2.1 11 r) → (6 - i).toNat = n → Tm (d + 1) m_X12_read 81 b σ [(2, .int (iI i)), (1, .int (iI c1)), (0, .ref b)] [] post := by
  intro n
  induction n using Nat.strongRecOn with
  | _ n ih =>
    intro i σ hF hR h0 hz ho hm
    refine tm_iload_n dX12_read_81 rfl 0 rfl ?_
    refine tm_aload_n dX12_read_82 rfl 2 rfl ?_
    refine tm_getS (k := 10) (t := σ0.1 10) dX12_read_83 (by decide) fl12_391 rfl (rs_F hF (by decide) (rfl)) ?_
    have g1 := RG.s hR0 10
    refine tm_icmp_ge (tgt := 119) dX12_read_86 (by decide) ⟨by omega, by omega⟩ ⟨by omega, by omega⟩ (fun h2 => ?_) (fun h2 => ?_)
    · exact tm_sub [0, 1, 2] rfl (hx_119 (i) σ (Fr.rfl.trans (Fr.sub hF (by decide) (by decide) (by decide))) hR (fun r a c => hz r a (by omega)) (fun r a => ho r (by omega)))
    · refine tm_aload_n dX12_read_89 rfl 2 rfl ?_
      refine tm_get (k := 12) (v := .ref (b + 1 + 9)) lay_12 dX12_read_90 (by decide) fl12_38 rfl ?_
      refine tm_iload_n dX12_read_93 rfl 0 rfl ?_
      refine tm_aload_n dX12_read_94 rfl 2 rfl ?_
      refine tm_get (k := 35) (v := .ref (b + 1 + 16)) lay_12 dX12_read_95 (by decide) fl12_63 rfl ?_
      refine tm_iload_n dX12_read_98 rfl 0 rfl ?_
      refine tm_iald (z := i) (v := σ0.2.1 35 i) dX12_read_99 (show mT[16]? = some (35, 0, 6) from rfl) (by omega) (by omega) (by decide) (ra_F hF (by decide) (rfl)) ?_
      have g3 := RG.a hR0 35 (i)
      refine tm_iast (z := i) (v := σ0.2.1 35 i) dX12_read_100 (show mT[9]? = some (12, 0, 6) from rfl) (by omega) (by omega) (by decide) ?_
      refine tm_aload_n dX12_read_101 rfl 2 rfl ?_
      refine tm_get (k := 11) (v := .ref (b + 1 + 8)) lay_12 dX12_read_102 (by decide) fl12_35 rfl ?_
      refine tm_iload_n dX12_read_105 rfl 0 rfl ?_
      refine tm_aload_n dX12_read_106 rfl 2 rfl ?_
      refine tm_get (k := 36) (v := .ref (b + 1 + 17)) lay_12 dX12_read_107 (by decide) fl12_66 rfl ?_
      refine tm_iload_n dX12_read_110 rfl 0 rfl ?_
      refine tm_iald (z := i) (v := σ0.2.1 36 i) dX12_read_111 (show mT[17]? = some (36, 0, 6) from rfl) (by omega) (by omega) (by decide) (ra_o (by decide) (ra_F hF (by decide) (rfl))) ?_
      have g4 := RG.a hR0 36 (i)
      refine tm_iast (z := i) (v := σ0.2.1 36 i) dX12_read_112 (show mT[8]? = some (11, 0, 6) from rfl) (by omega) (by omega) (by decide) ?_
      refine tm_iinc (q0 := 0) (L' := [(2, .int (iI (i + 1))), (1, .int (iI c1)), (0, .ref b)]) dX12_read_113 rfl (by decide) rfl ?_
      refine tm_goto (tgt := 81) dX12_read_116 (by decide) ?_
      exact tm_sub [0, 1, 2] rfl (ih _ (by omega) (i + 1) (sA 11 (i) (σ0.2.1 36 i) (sA 12 (i) (σ0.2.1 35 i) σ)) (((Fr.rfl.trans (Fr.sub hF (by decide) (by decide) (by decide))).A (by decide)).A (by decide)) ((hR.A (by omega)).A (by omega)) (by omega) (fun r a c => (Classical.em (r = i)).elim (fun z => by rw [z]; exact ⟨ra_o (by decide) ra_eq, ra_eq⟩) (fun z => ⟨(ra_o (by decide) (ra_ne z rfl)).trans (hz r a (by omega)).1, (ra_ne z (ra_o (by decide) rfl)).trans (hz r a (by omega)).2⟩)) (fun r a => ⟨(ra_o (by decide) (ra_ne (by omega) rfl)).trans (ho r (by omega)).1, (ra_ne (by omega) (ra_o (by decide) rfl)).trans (ho r (by omega)).2⟩) rfl)
theorem dX12_read_228 : decode cX12_read 228 = .ok (.iload_n 3, 1) := by decide +kernel
theorem dX12_read_229 : decode cX12_read 229 = .ok (.aload_n 0, 1) := by decide +kernel
theorem dX12_read_230 : decode cX12_read 230 = .ok (.getfield 32, 3) := by decide +kernel
theorem dX12_read_233 : decode cX12_read 233 = .ok (.iload_n 2, 1) := by decide +kernel
theorem dX12_read_234 : decode cX12_read 234 = .ok (.iaload, 1) := by decide +kernel
theorem dX12_read_235 : decode cX12_read 235 = .ok (.if_icmp .ge 28, 3) := by decide +kernel
theorem dX12_read_238 : decode cX12_read 238 = .ok (.aload_n 0, 1) := by decide +kernel
theorem dX12_read_239 : decode cX12_read 239 = .ok (.aload_n 0, 1) := by decide +kernel
theorem dX12_read_240 : decode cX12_read 240 = .ok (.iload_n 2, 1) := by decide +kernel
theorem dX12_read_241 : decode cX12_read 241 = .ok (.iload_n 3, 1) := by decide +kernel
theorem dX12_read_242 : decode cX12_read 242 = .ok (.invokevirtual 203, 3) := by decide +kernel
theorem dX12_read_245 : decode cX12_read 245 = .ok (.aload_n 0, 1) := by decide +kernel
theorem dX12_read_246 : decode cX12_read 246 = .ok (.bipush 6, 2) := by decide +kernel
theorem dX12_read_248 : decode cX12_read 248 = .ok (.iload_n 2, 1) := by decide +kernel
theorem dX12_read_249 : decode cX12_read 249 = .ok (.iadd, 1) := by decide +kernel
theorem dX12_read_250 : decode cX12_read 250 = .ok (.iload_n 3, 1) := by decide +kernel
theorem dX12_read_251 : decode cX12_read 251 = .ok (.invokevirtual 203, 3) := by decide +kernel
theorem dX12_read_254 : decode cX12_read 254 = .ok (.invokevirtual 394, 3) := by decide +kernel
theorem dX12_read_257 : decode cX12_read 257 = .ok (.iinc 3 1, 3) := by decide +kernel
theorem dX12_read_260 : decode cX12_read 260 = .ok (.goto (-32), 3) := by decide +kernel
set_option maxHeartbeats 4000000 in
set_option maxRecDepth 20000 in
theorem l_rd228 (d : Nat) {b : Nat} {σ0 : MS} {c1 : Int} {r : Int} {post : Option Value → MS → Prop} (hR0 : RG σ0) (hr : 0 ≤ r ∧ r < 6) (h9 : 0 ≤ σ0.2.1 9 r ∧ σ0.2.1 9 r ≤ 220) (hx_263 : ∀ (k : Int) (σ : MS) , (Fr [] [3, 4, 5, 6, 7, 8] [] σ0 σ) → (RG σ) → (∀ x, (x < 220 * (6 + r) ∨ 220 * (6 + r) + 220 ≤ x) → IEQ σ0 x σ x) → (∀ j, 0 ≤ j → j < σ0.2.1 9 r → IEQ σ0 (220 * r + j) σ (220 * (6 + r) + j)) → Tm (d + 2) m_X12_read 263 b σ [(3, .int (iI k)), (2, .int (iI r)), (1, .int (iI c1)), (0, .ref b)] [] post) : ∀ (n : Nat) (k : Int) (σ : MS) , (Fr [] [3, 4, 5, 6, 7, 8] [] σ0 σ) → (RG σ) → (0 ≤ k ∧ k ≤ 220) → (∀ x, (x < 220 * (6 + r) ∨ 220 * (6 + r) + 220 ≤ x) → IEQ σ0 x σ x) → (∀ j, 0 ≤ j → j < k → IEQ σ0 (220 * r + j) σ (220 * (6 + r) + j)) → (221 - k).toNat = n → Tm (d + 2) m_X12_read 228 b σ [(3, .int (iI k)), (2, .int (iI r)), (1, .int (iI c1)), (0, .ref b)] [] post := by
  intro n
  induction n using Nat.strongRecOn with
  | _ n ih =>
    intro k σ hF hR h0 hlo hcp hm
    refine tm_iload_n dX12_read_228 rfl 0 rfl ?_
    refine tm_aload_n dX12_read_229 rfl 3 rfl ?_
    refine tm_get (k := 9) (v := .ref (b + 1 + 7)) lay_12 dX12_read_230 (by decide) fl12_32 rfl ?_
    refine tm_iload_n dX12_read_233 rfl 1 rfl ?_
    refine tm_iald (z := r) (v := σ0.2.1 9 r) dX12_read_234 (show mT[7]? = some (9, 0, 13) from rfl) (by omega) (by omega) (by decide) (ra_F hF (by decide) (rfl)) ?_
    have g1 := RG.a hR0 9 (r)
    refine tm_icmp_ge (tgt := 263) dX12_read_235 (by decide) ⟨by omega, by omega⟩ ⟨by omega, by omega⟩ (fun h2 => ?_) (fun h2 => ?_)
    · exact tm_sub [0, 1, 2, 3] rfl (hx_263 (k) σ (Fr.rfl.trans (Fr.sub hF (by decide) (by decide) (by decide))) hR hlo (fun j a c => hcp j a (by omega)))
    · refine tm_aload_n dX12_read_238 rfl 3 rfl ?_
      refine tm_aload_n dX12_read_239 rfl 3 rfl ?_
      refine tm_iload_n dX12_read_240 rfl 1 rfl ?_
      refine tm_iload_n dX12_read_241 rfl 0 rfl ?_
      refine tm_callV (M := m_X12_read) (pc := 242) (ix := 203) (M' := m_X12_at) (As := [.int (iI r), .int (iI k)]) (rest := [.ref b]) dX12_read_242 ok_X12_at im_X12_at se_X12_at ml12_203 np_X12_at rfl rfl (Nat.le_of_ble_eq_true rfl) (Nat.le_of_ble_eq_true rfl) rfl (c_X12_at (d) (σ := σ) (x := r) (k := k) ) (fun r3 σ4 hp => ?_)
      obtain ⟨v5, rfl, rfl, f6⟩ := hp
      subst f6
      show Tm _ _ 245 b σ [(3, .int (iI k)), (2, .int (iI r)), (1, .int (iI c1)), (0, .ref b)] [.int (iI (220 * r + k)), .ref b] _
      refine tm_aload_n dX12_read_245 rfl 3 rfl ?_
      refine tm_bipush dX12_read_246 (by decide) ?_
      refine tm_iload_n dX12_read_248 rfl 1 rfl ?_
      refine tm_iadd dX12_read_249 ?_
      refine tm_iload_n dX12_read_250 rfl 0 rfl ?_
      refine tm_callV (M := m_X12_read) (pc := 251) (ix := 203) (M' := m_X12_at) (As := [.int (iI (6 + r)), .int (iI k)]) (rest := [.int (iI (220 * r + k)), .ref b]) dX12_read_251 ok_X12_at im_X12_at se_X12_at ml12_203 np_X12_at rfl rfl (Nat.le_of_ble_eq_true rfl) (Nat.le_of_ble_eq_true rfl) rfl (c_X12_at (d) (σ := σ) (x := 6 + r) (k := k) ) (fun r7 σ8 hp => ?_)
      obtain ⟨v9, rfl, rfl, f10⟩ := hp
      subst f10
      show Tm _ _ 254 b σ [(3, .int (iI k)), (2, .int (iI r)), (1, .int (iI c1)), (0, .ref b)] [.int (iI (220 * (6 + r) + k)), .int (iI (220 * r + k)), .ref b] _
      refine tm_callV (M := m_X12_read) (pc := 254) (ix := 394) (M' := m_X12_copyItem) (As := [.int (iI (220 * r + k)), .int (iI (220 * (6 + r) + k))]) (rest := []) dX12_read_254 ok_X12_copyItem im_X12_copyItem se_X12_copyItem ml12_394 np_X12_copyItem rfl rfl (Nat.le_of_ble_eq_true rfl) (Nat.le_of_ble_eq_true rfl) rfl (c_X12_copyItem (d) (σ := σ) (f := 220 * r + k) (t := 220 * (6 + r) + k) (by omega) (by omega)) (fun r11 σ12 hp => ?_)
      obtain ⟨rfl, f14⟩ := hp
      subst f14
      show Tm _ _ 257 b (fCopy (220 * r + k) (220 * (6 + r) + k) σ) [(3, .int (iI k)), (2, .int (iI r)), (1, .int (iI c1)), (0, .ref b)] [] _
      refine tm_iinc (q0 := 0) (L' := [(3, .int (iI (k + 1))), (2, .int (iI r)), (1, .int (iI c1)), (0, .ref b)]) dX12_read_257 rfl (by decide) rfl ?_
      refine tm_goto (tgt := 228) dX12_read_260 (by decide) ?_
      exact tm_sub [0, 1, 2, 3] rfl (ih _ (by omega) (k + 1) (fCopy (220 * r + k) (220 * (6 + r) + k) σ) ((Fr.rfl.trans (Fr.sub hF (by decide) (by decide) (by decide))).trans (Fr.sub fCopy_fr (by decide) (by decide) (by decide))) (hR.copy) (by omega) (fun x a => (hlo x a).trans (fCopy_off.ieq (by omega))) (fun j a c => (Classical.em (j = k)).elim (fun z => by rw [z]; exact (hlo _ (by omega)).trans fCopy_ieq) (fun z => (hcp j a (by omega)).trans (fCopy_off.ieq (by omega)))) rfl)
theorem dX12_read_186 : decode cX12_read 186 = .ok (.iload_n 3, 1) := by decide +kernel
theorem dX12_read_187 : decode cX12_read 187 = .ok (.bipush 12, 2) := by decide +kernel
theorem dX12_read_189 : decode cX12_read 189 = .ok (.if_icmp .ge 22, 3) := by decide +kernel
theorem dX12_read_192 : decode cX12_read 192 = .ok (.aload_n 0, 1) := by decide +kernel
theorem dX12_read_193 : decode cX12_read 193 = .ok (.getfield 56, 3) := by decide +kernel
theorem dX12_read_196 : decode cX12_read 196 = .ok (.sipush 144, 3) := by decide +kernel
theorem dX12_read_199 : decode cX12_read 199 = .ok (.iload_n 2, 1) := by decide +kernel
theorem dX12_read_200 : decode cX12_read 200 = .ok (.imul, 1) := by decide +kernel
theorem dX12_read_201 : decode cX12_read 201 = .ok (.iload_n 3, 1) := by decide +kernel
theorem dX12_read_202 : decode cX12_read 202 = .ok (.iadd, 1) := by decide +kernel
theorem dX12_read_203 : decode cX12_read 203 = .ok (.iload_n 3, 1) := by decide +kernel
theorem dX12_read_204 : decode cX12_read 204 = .ok (.iastore, 1) := by decide +kernel
theorem dX12_read_205 : decode cX12_read 205 = .ok (.iinc 3 1, 3) := by decide +kernel
theorem dX12_read_208 : decode cX12_read 208 = .ok (.goto (-22), 3) := by decide +kernel
set_option maxHeartbeats 4000000 in
set_option maxRecDepth 20000 in
theorem l_rd186 (d : Nat) {b : Nat} {σ0 : MS} {c1 : Int} {r : Int} {post : Option Value → MS → Prop} (hR0 : RG σ0) (hr : 0 ≤ r ∧ r < 6) (hx_211 : ∀ (i : Int) (σ : MS) , (Fr [] [18] [] σ0 σ) → (RG σ) → (∀ j, 0 ≤ j → j < 12 → σ.2.1 18 (144 * r + j) = j) → (∀ z, (z < 144 * r ∨ 144 * r + 144 ≤ z) → σ.2.1 18 z = σ0.2.1 18 z) → Tm (d + 1) m_X12_read 211 b σ [(3, .int (iI i)), (2, .int (iI r)), (1, .int (iI c1)), (0, .ref b)] [] post) : ∀ (n : Nat) (i : Int) (σ : MS) , (Fr [] [18] [] σ0 σ) → (RG σ) → (0 ≤ i ∧ i ≤ 12) → (∀ j, 0 ≤ j → j < i → σ.2.1 18 (144 * r + j) = j) → (∀ z, (z < 144 * r ∨ 144 * r + 144 ≤ z) → σ.2.1 18 z = σ0.2.1 18 z) → (12 - i).toNat = n → Tm (d + 1) m_X12_read 186 b σ [(3, .int (iI i)), (2, .int (iI r)), (1, .int (iI c1)), (0, .ref b)] [] post := by
  intro n
  induction n using Nat.strongRecOn with
  | _ n ih =>
    intro i σ hF hR h0 hz ho hm
    refine tm_iload_n dX12_read_186 rfl 0 rfl ?_
    refine tm_bipush dX12_read_187 (by decide) ?_
    refine tm_icmp_ge (tgt := 211) dX12_read_189 (by decide) ⟨by omega, by omega⟩ ⟨by decide, by decide⟩ (fun h1 => ?_) (fun h1 => ?_)
    · exact tm_sub [0, 1, 2, 3] rfl (hx_211 (i) σ (Fr.rfl.trans (Fr.sub hF (by decide) (by decide) (by decide))) hR (fun j a c => hz j a (by omega)) ho)
    · refine tm_aload_n dX12_read_192 rfl 3 rfl ?_
      refine tm_get (k := 18) (v := .ref (b + 1 + 15)) lay_12 dX12_read_193 (by decide) fl12_56 rfl ?_
      refine tm_sipush dX12_read_196 (by decide) ?_
      refine tm_iload_n dX12_read_199 rfl 1 rfl ?_
      refine tm_imul dX12_read_200 ?_
      refine tm_iload_n dX12_read_201 rfl 0 rfl ?_
      refine tm_iadd dX12_read_202 ?_
      refine tm_iload_n dX12_read_203 rfl 0 rfl ?_
      refine tm_iast (z := (144 * r) + i) (v := i) dX12_read_204 (show mT[15]? = some (18, 0, 864) from rfl) (by omega) (by omega) (by decide) ?_
      refine tm_iinc (q0 := 0) (L' := [(3, .int (iI (i + 1))), (2, .int (iI r)), (1, .int (iI c1)), (0, .ref b)]) dX12_read_205 rfl (by decide) rfl ?_
      refine tm_goto (tgt := 186) dX12_read_208 (by decide) ?_
      exact tm_sub [0, 1, 2, 3] rfl (ih _ (by omega) (i + 1) (sA 18 ((144 * r) + i) (i) σ) ((Fr.rfl.trans (Fr.sub hF (by decide) (by decide) (by decide))).A (by decide)) (hR.A (by omega)) (by omega) (fun j a c => (Classical.em (j = i)).elim (fun z => by rw [z]; exact ra_eq) (fun z => (ra_ne (by omega) rfl).trans (hz j a (by omega)))) (fun z a => (ra_ne (by omega) rfl).trans (ho z a)) rfl)
theorem dX12_read_127 : decode cX12_read 127 = .ok (.iload_n 2, 1) := by decide +kernel
theorem dX12_read_128 : decode cX12_read 128 = .ok (.aload_n 0, 1) := by decide +kernel
theorem dX12_read_129 : decode cX12_read 129 = .ok (.getfield 391, 3) := by decide +kernel
theorem dX12_read_132 : decode cX12_read 132 = .ok (.if_icmp .ge 137, 3) := by decide +kernel
theorem dX12_read_135 : decode cX12_read 135 = .ok (.aload_n 0, 1) := by decide +kernel
theorem dX12_read_136 : decode cX12_read 136 = .ok (.getfield 41, 3) := by decide +kernel
theorem dX12_read_139 : decode cX12_read 139 = .ok (.iload_n 2, 1) := by decide +kernel
theorem dX12_read_140 : decode cX12_read 140 = .ok (.aload_n 0, 1) := by decide +kernel
theorem dX12_read_141 : decode cX12_read 141 = .ok (.getfield 69, 3) := by decide +kernel
theorem dX12_read_144 : decode cX12_read 144 = .ok (.iload_n 2, 1) := by decide +kernel
theorem dX12_read_145 : decode cX12_read 145 = .ok (.iaload, 1) := by decide +kernel
theorem dX12_read_146 : decode cX12_read 146 = .ok (.iastore, 1) := by decide +kernel
theorem dX12_read_147 : decode cX12_read 147 = .ok (.aload_n 0, 1) := by decide +kernel
theorem dX12_read_148 : decode cX12_read 148 = .ok (.getfield 44, 3) := by decide +kernel
theorem dX12_read_151 : decode cX12_read 151 = .ok (.iload_n 2, 1) := by decide +kernel
theorem dX12_read_152 : decode cX12_read 152 = .ok (.iconst 1, 1) := by decide +kernel
theorem dX12_read_153 : decode cX12_read 153 = .ok (.iastore, 1) := by decide +kernel
theorem dX12_read_154 : decode cX12_read 154 = .ok (.aload_n 0, 1) := by decide +kernel
theorem dX12_read_155 : decode cX12_read 155 = .ok (.getfield 47, 3) := by decide +kernel
theorem dX12_read_158 : decode cX12_read 158 = .ok (.bipush 12, 2) := by decide +kernel
theorem dX12_read_160 : decode cX12_read 160 = .ok (.iload_n 2, 1) := by decide +kernel
theorem dX12_read_161 : decode cX12_read 161 = .ok (.imul, 1) := by decide +kernel
theorem dX12_read_162 : decode cX12_read 162 = .ok (.iload_n 2, 1) := by decide +kernel
theorem dX12_read_163 : decode cX12_read 163 = .ok (.iastore, 1) := by decide +kernel
theorem dX12_read_164 : decode cX12_read 164 = .ok (.aload_n 0, 1) := by decide +kernel
theorem dX12_read_165 : decode cX12_read 165 = .ok (.getfield 50, 3) := by decide +kernel
theorem dX12_read_168 : decode cX12_read 168 = .ok (.bipush 12, 2) := by decide +kernel
theorem dX12_read_170 : decode cX12_read 170 = .ok (.iload_n 2, 1) := by decide +kernel
theorem dX12_read_171 : decode cX12_read 171 = .ok (.imul, 1) := by decide +kernel
theorem dX12_read_172 : decode cX12_read 172 = .ok (.iconst (-1), 1) := by decide +kernel
theorem dX12_read_173 : decode cX12_read 173 = .ok (.iastore, 1) := by decide +kernel
theorem dX12_read_174 : decode cX12_read 174 = .ok (.aload_n 0, 1) := by decide +kernel
theorem dX12_read_175 : decode cX12_read 175 = .ok (.getfield 53, 3) := by decide +kernel
theorem dX12_read_178 : decode cX12_read 178 = .ok (.bipush 12, 2) := by decide +kernel
theorem dX12_read_180 : decode cX12_read 180 = .ok (.iload_n 2, 1) := by decide +kernel
theorem dX12_read_181 : decode cX12_read 181 = .ok (.imul, 1) := by decide +kernel
theorem dX12_read_182 : decode cX12_read 182 = .ok (.iconst 0, 1) := by decide +kernel
theorem dX12_read_183 : decode cX12_read 183 = .ok (.iastore, 1) := by decide +kernel
theorem dX12_read_184 : decode cX12_read 184 = .ok (.iconst 0, 1) := by decide +kernel
theorem dX12_read_185 : decode cX12_read 185 = .ok (.istore_n 3, 1) := by decide +kernel
theorem dX12_read_211 : decode cX12_read 211 = .ok (.aload_n 0, 1) := by decide +kernel
theorem dX12_read_212 : decode cX12_read 212 = .ok (.getfield 32, 3) := by decide +kernel
theorem dX12_read_215 : decode cX12_read 215 = .ok (.bipush 6, 2) := by decide +kernel
theorem dX12_read_217 : decode cX12_read 217 = .ok (.iload_n 2, 1) := by decide +kernel
theorem dX12_read_218 : decode cX12_read 218 = .ok (.iadd, 1) := by decide +kernel
theorem dX12_read_219 : decode cX12_read 219 = .ok (.aload_n 0, 1) := by decide +kernel
theorem dX12_read_220 : decode cX12_read 220 = .ok (.getfield 32, 3) := by decide +kernel
theorem dX12_read_223 : decode cX12_read 223 = .ok (.iload_n 2, 1) := by decide +kernel
theorem dX12_read_224 : decode cX12_read 224 = .ok (.iaload, 1) := by decide +kernel
theorem dX12_read_225 : decode cX12_read 225 = .ok (.iastore, 1) := by decide +kernel
theorem dX12_read_226 : decode cX12_read 226 = .ok (.iconst 0, 1) := by decide +kernel
theorem dX12_read_227 : decode cX12_read 227 = .ok (.istore_n 3, 1) := by decide +kernel
theorem dX12_read_263 : decode cX12_read 263 = .ok (.iinc 2 1, 3) := by decide +kernel
theorem dX12_read_266 : decode cX12_read 266 = .ok (.goto (-139), 3) := by decide +kernel
set_option maxHeartbeats 4000000 in
set_option maxRecDepth 20000 in
theorem l_rd127 (d : Nat) {b : Nat} {σ0 : MS} {c1 : Int} {post : Option Value → MS → Prop} (hR0 : RG σ0) (hN : 0 ≤ σ0.1 10 ∧ σ0.1 10 ≤ 6) (hpl : ∀ r, 0 ≤ r → r < σ0.1 10 → PLI σ0 r) (hx_269 : ∀ (r : Int) (σ : MS) , (Fr [] [3, 4, 5, 6, 7, 8, 9, 13, 14, 15, 16, 17, 18] [] σ0 σ) → (RG σ) → (∀ j, 0 ≤ j → j < σ0.1 10 → DNR σ j) → (∀ x, x < 1320 → IEQ σ0 x σ x) → (∀ j, j < 6 → σ.2.1 9 j = σ0.2.1 9 j) → (ITM σ) → (∀ j, 0 ≤ j → j < σ0.1 10 → DN2 σ0 σ j) → Tm (d + 3) m_X12_read 269 b σ [(2, .int (iI r)), (1, .int (iI c1)), (0, .ref b)] [] post) : ∀ (n : Nat) (r : Int) (σ : MS) , (Fr [] [3, 4, 5, 6, 7, 8, 9, 13, 14, 15, 16, 17, 18] [] σ0 σ) → (RG σ) → (0 ≤ r ∧ r ≤ σ0.1 10) → (∀ j, 0 ≤ j → j < r → DNR σ j) → (∀ x, x < 1320 → IEQ σ0 x σ x) → (∀ j, j < 6 → σ.2.1 9 j = σ0.2.1 9 j) → (ITM σ) → (∀ j, 0 ≤ j → j < r → DN2 σ0 σ j) → (6 - r).toNat = n → Tm (d + 3) m_X12_read 127 b σ [(2, .int (iI r)), (1, .int (iI c1)), (0, .ref b)] [] post := by
  intro n
  induction n using Nat.strongRecOn with
  | _ n ih =>
    intro r σ hF hR h0 hdn hbk h9 hit hd2 hm
    have e10 : σ.1 10 = σ0.1 10 := hF.1 10 (by decide)
    refine tm_iload_n dX12_read_127 rfl 0 rfl ?_
    refine tm_aload_n dX12_read_128 rfl 2 rfl ?_
    refine tm_getS (k := 10) (t := σ0.1 10) dX12_read_129 (by decide) fl12_391 rfl (rs_F hF (by decide) (rfl)) ?_
    have g1 := RG.s hR0 10
    refine tm_icmp_ge (tgt := 269) dX12_read_132 (by decide) ⟨by omega, by omega⟩ ⟨by omega, by omega⟩ (fun h2 => ?_) (fun h2 => ?_)
    · exact tm_sub [0, 1, 2] rfl (hx_269 (r) σ (Fr.rfl.trans (Fr.sub hF (by decide) (by decide) (by decide))) hR (fun j a c => hdn j a (by omega)) hbk h9 hit (fun j a c => hd2 j a (by omega)))
    · have p9 := (hpl r h0.1 (by omega)).1
      have q9 := h9 r (by omega)
      refine tm_aload_n dX12_read_135 rfl 2 rfl ?_
      refine tm_get (k := 13) (v := .ref (b + 1 + 10)) lay_12 dX12_read_136 (by decide) fl12_41 rfl ?_
      refine tm_iload_n dX12_read_139 rfl 0 rfl ?_
      refine tm_aload_n dX12_read_140 rfl 2 rfl ?_
      refine tm_get (k := 37) (v := .ref (b + 1 + 18)) lay_12 dX12_read_141 (by decide) fl12_69 rfl ?_
      refine tm_iload_n dX12_read_144 rfl 0 rfl ?_
      refine tm_iald (z := r) (v := σ0.2.1 37 r) dX12_read_145 (show mT[18]? = some (37, 0, 6) from rfl) (by omega) (by omega) (by decide) (ra_F hF (by decide) (rfl)) ?_
      have g3 := RG.a hR0 37 (r)
      refine tm_iast (z := r) (v := σ0.2.1 37 r) dX12_read_146 (show mT[10]? = some (13, 0, 6) from rfl) (by omega) (by omega) (by decide) ?_
      refine tm_aload_n dX12_read_147 rfl 2 rfl ?_
      refine tm_get (k := 14) (v := .ref (b + 1 + 11)) lay_12 dX12_read_148 (by decide) fl12_44 rfl ?_
      refine tm_iload_n dX12_read_151 rfl 0 rfl ?_
      refine tm_iconst dX12_read_152 ?_
      refine tm_iast (z := r) (v := 1) dX12_read_153 (show mT[11]? = some (14, 0, 6) from rfl) (by omega) (by omega) (by decide) ?_
      refine tm_aload_n dX12_read_154 rfl 2 rfl ?_
      refine tm_get (k := 15) (v := .ref (b + 1 + 12)) lay_12 dX12_read_155 (by decide) fl12_47 rfl ?_
      refine tm_bipush dX12_read_158 (by decide) ?_
      refine tm_iload_n dX12_read_160 rfl 0 rfl ?_
      refine tm_imul dX12_read_161 ?_
      refine tm_iload_n dX12_read_162 rfl 0 rfl ?_
      refine tm_iast (z := 12 * r) (v := r) dX12_read_163 (show mT[12]? = some (15, 0, 72) from rfl) (by omega) (by omega) (by decide) ?_
      refine tm_aload_n dX12_read_164 rfl 2 rfl ?_
      refine tm_get (k := 16) (v := .ref (b + 1 + 13)) lay_12 dX12_read_165 (by decide) fl12_50 rfl ?_
      refine tm_bipush dX12_read_168 (by decide) ?_
      refine tm_iload_n dX12_read_170 rfl 0 rfl ?_
      refine tm_imul dX12_read_171 ?_
      refine tm_iconst dX12_read_172 ?_
      refine tm_iast (z := 12 * r) (v := -1) dX12_read_173 (show mT[13]? = some (16, 0, 72) from rfl) (by omega) (by omega) (by decide) ?_
      refine tm_aload_n dX12_read_174 rfl 2 rfl ?_
      refine tm_get (k := 17) (v := .ref (b + 1 + 14)) lay_12 dX12_read_175 (by decide) fl12_53 rfl ?_
      refine tm_bipush dX12_read_178 (by decide) ?_
      refine tm_iload_n dX12_read_180 rfl 0 rfl ?_
      refine tm_imul dX12_read_181 ?_
      refine tm_iconst dX12_read_182 ?_
      refine tm_iast (z := 12 * r) (v := 0) dX12_read_183 (show mT[14]? = some (17, 0, 72) from rfl) (by omega) (by omega) (by decide) ?_
      refine tm_iconst dX12_read_184 ?_
      refine tm_istore_n (L' := [(3, .int (iI 0)), (2, .int (iI r)), (1, .int (iI c1)), (0, .ref b)]) dX12_read_185 rfl (by decide) rfl ?_
      refine tm_sub [0, 1, 2, 3] rfl (l_rd186 (d + 2) (σ0 := (sA 17 (12 * r) (0) (sA 16 (12 * r) (-1) (sA 15 (12 * r) (r) (sA 14 (r) (1) (sA 13 (r) (σ0.2.1 37 r) σ)))))) (c1 := c1) (r := r) (((((hR.A (by omega)).A (by omega)).A (by omega)).A (by omega)).A (by omega)) (by omega) (fun i10 σ11 F6 R7 f8 f9 => ?_) _ (0) (sA 17 (12 * r) (0) (sA 16 (12 * r) (-1) (sA 15 (12 * r) (r) (sA 14 (r) (1) (sA 13 (r) (σ0.2.1 37 r) σ))))) Fr.rfl (((((hR.A (by omega)).A (by omega)).A (by omega)).A (by omega)).A (by omega)) (by omega) (fun j a c => absurd c (by omega)) (fun z a => rfl) rfl)
      show Tm _ _ 211 b σ11 [(3, .int (iI i10)), (2, .int (iI r)), (1, .int (iI c1)), (0, .ref b)] [] _
      have n0_ := f8
      have n1_ := f9
      refine tm_aload_n dX12_read_211 rfl 3 rfl ?_
      refine tm_get (k := 9) (v := .ref (b + 1 + 7)) lay_12 dX12_read_212 (by decide) fl12_32 rfl ?_
      refine tm_bipush dX12_read_215 (by decide) ?_
      refine tm_iload_n dX12_read_217 rfl 1 rfl ?_
      refine tm_iadd dX12_read_218 ?_
      refine tm_aload_n dX12_read_219 rfl 3 rfl ?_
      refine tm_get (k := 9) (v := .ref (b + 1 + 7)) lay_12 dX12_read_220 (by decide) fl12_32 rfl ?_
      refine tm_iload_n dX12_read_223 rfl 1 rfl ?_
      refine tm_iald (z := r) (v := σ.2.1 9 r) dX12_read_224 (show mT[7]? = some (9, 0, 13) from rfl) (by omega) (by omega) (by decide) (ra_F F6 (by decide) (ra_o (by decide) (ra_o (by decide) (ra_o (by decide) (ra_o (by decide) (ra_o (by decide) (rfl))))))) ?_
      have g12 := RG.a hR 9 (r)
      refine tm_iast (z := 6 + r) (v := σ.2.1 9 r) dX12_read_225 (show mT[7]? = some (9, 0, 13) from rfl) (by omega) (by omega) (by decide) ?_
      refine tm_iconst dX12_read_226 ?_
      refine tm_istore_n (L' := [(3, .int (iI 0)), (2, .int (iI r)), (1, .int (iI c1)), (0, .ref b)]) dX12_read_227 rfl (by decide) rfl ?_
      refine tm_sub [0, 1, 2, 3] rfl (l_rd228 (d + 1) (σ0 := (sA 9 (6 + r) (σ.2.1 9 r) σ11)) (c1 := c1) (r := r) (R7.A (by omega)) (by omega) (by rw [show (sA 9 (6 + r) (σ.2.1 9 r) σ11).2.1 9 r = σ.2.1 9 r from ra_ne (by omega) (ra_F F6 (by decide) (ra_o (by decide) (ra_o (by decide) (ra_o (by decide) (ra_o (by decide) (ra_o (by decide) (rfl)))))))]; omega) (fun k19 σ20 F15 R16 f17 f18 => ?_) _ (0) (sA 9 (6 + r) (σ.2.1 9 r) σ11) Fr.rfl (R7.A (by omega)) (by omega) (fun x a => ⟨rfl, rfl, rfl, rfl, fun _ _ _ => ⟨rfl, rfl⟩⟩) (fun j a c => absurd c (by omega)) rfl)
      show Tm _ _ 263 b σ20 [(3, .int (iI k19)), (2, .int (iI r)), (1, .int (iI c1)), (0, .ref b)] [] _
      have f28 := (show Fr [] [9, 13, 14, 15, 16, 17, 18] [] σ (sA 9 (6 + r) (σ.2.1 9 r) σ11) from (((((((Fr.rfl.A (by decide)).A (by decide)).A (by decide)).A (by decide)).A (by decide)).trans (Fr.sub F6 (by decide) (by decide) (by decide))).A (by decide)))
      have e928 : (sA 9 (6 + r) (σ.2.1 9 r) σ11).2.1 9 r = σ.2.1 9 r := ra_ne (by omega) (ra_F F6 (by decide) (ra_o (by decide) (ra_o (by decide) (ra_o (by decide) (ra_o (by decide) (ra_o (by decide) (rfl)))))))
      have c0_ : ∀ x, (x < 220 * (6 + r) ∨ 220 * (6 + r) + 220 ≤ x) → IEQ σ x σ20 x := fun x a => (IEQ.of f28 (by decide)).trans (f17 x a)
      have c1_ : ∀ j, 0 ≤ j → j < σ.2.1 9 r → IEQ σ (220 * r + j) σ20 (220 * (6 + r) + j) := fun j a c => (IEQ.of f28 (by decide)).trans (f18 j a (by rw [e928]; exact c))
      refine tm_iinc (q0 := 1) (L' := [(2, .int (iI (r + 1))), (3, .int (iI k19)), (1, .int (iI c1)), (0, .ref b)]) dX12_read_263 rfl (by decide) rfl ?_
      refine tm_goto (tgt := 127) dX12_read_266 (by decide) ?_
      exact tm_sub [0, 2, 3] rfl (ih _ (by omega) (r + 1) σ20 (((((((((Fr.rfl.trans (Fr.sub hF (by decide) (by decide) (by decide))).A (by decide)).A (by decide)).A (by decide)).A (by decide)).A (by decide)).trans (Fr.sub F6 (by decide) (by decide) (by decide))).A (by decide)).trans (Fr.sub F15 (by decide) (by decide) (by decide))) R16 (by omega) (fun j a c => (Classical.em (j = r)).elim (fun z => by rw [z]; exact ⟨ra_F F15 (by decide) (ra_o (by decide) (ra_F F6 (by decide) (ra_o (by decide) (ra_o (by decide) (ra_o (by decide) (ra_eq)))))), ra_F F15 (by decide) (ra_o (by decide) (ra_F F6 (by decide) (ra_o (by decide) (ra_o (by decide) (ra_eq))))), ra_F F15 (by decide) (ra_o (by decide) (ra_F F6 (by decide) (ra_o (by decide) (ra_eq)))), fun n y1 y2 => (show σ20.2.1 18 (144 * r + n) = σ11.2.1 18 (144 * r + n) from ra_F F15 (by decide) (ra_o (by decide) (rfl))).trans (n0_ n y1 y2), (show σ20.2.1 9 (6 + r) = σ.2.1 9 r from ra_F F15 (by decide) (ra_eq)).trans ((show σ20.2.1 9 r = σ.2.1 9 r from ra_F F15 (by decide) (ra_ne (by omega) (ra_F F6 (by decide) (ra_o (by decide) (ra_o (by decide) (ra_o (by decide) (ra_o (by decide) (ra_o (by decide) (rfl))))))))).symm), fun k y1 y2 => by rw [show σ20.2.1 9 r = σ.2.1 9 r from ra_F F15 (by decide) (ra_ne (by omega) (ra_F F6 (by decide) (ra_o (by decide) (ra_o (by decide) (ra_o (by decide) (ra_o (by decide) (ra_o (by decide) (rfl))))))))] at y2; exact (c0_ (220 * r + k) (by omega)).symm.trans (c1_ k y1 y2)⟩) (fun z => (hdn j a (by omega)).oth (ra_F F15 (by decide) (ra_o (by decide) (ra_F F6 (by decide) (ra_o (by decide) (ra_o (by decide) (ra_o (by decide) (ra_ne (by omega) (ra_o (by decide) (rfl))))))))) (ra_F F15 (by decide) (ra_o (by decide) (ra_F F6 (by decide) (ra_o (by decide) (ra_o (by decide) (ra_ne (by omega) (ra_o (by decide) (ra_o (by decide) (rfl))))))))) (ra_F F15 (by decide) (ra_o (by decide) (ra_F F6 (by decide) (ra_o (by decide) (ra_ne (by omega) (ra_o (by decide) (ra_o (by decide) (ra_o (by decide) (rfl))))))))) (fun n y1 y2 => (show σ20.2.1 18 (144 * j + n) = σ11.2.1 18 (144 * j + n) from ra_F F15 (by decide) (ra_o (by decide) (rfl))).trans ((n1_ _ (by omega)).trans (ra_o (by decide) (ra_o (by decide) (ra_o (by decide) (ra_o (by decide) (ra_o (by decide) (rfl)))))))) (ra_F F15 (by decide) (ra_ne (by omega) (ra_F F6 (by decide) (ra_o (by decide) (ra_o (by decide) (ra_o (by decide) (ra_o (by decide) (ra_o (by decide) (rfl))))))))) (ra_F F15 (by decide) (ra_ne (by omega) (ra_F F6 (by decide) (ra_o (by decide) (ra_o (by decide) (ra_o (by decide) (ra_o (by decide) (ra_o (by decide) (rfl))))))))) (by rw [h9 j (by omega)]; have z := (hpl j a (by omega)).1; omega) (fun k y1 y2 => c0_ _ (by omega)) (fun k y1 y2 => c0_ _ (by omega)))) (fun x a => (hbk x a).trans (c0_ x (by omega))) (fun j a => (ra_F F15 (by decide) (ra_ne (by omega) (ra_F F6 (by decide) (ra_o (by decide) (ra_o (by decide) (ra_o (by decide) (ra_o (by decide) (ra_o (by decide) (rfl)))))))) : σ20.2.1 9 j = σ.2.1 9 j).trans (h9 j a)) (fun j a c => (Classical.em (j = 6 + r)).elim (fun z => by rw [z, show σ20.2.1 9 (6 + r) = σ.2.1 9 r from ra_F F15 (by decide) (ra_eq)]; omega) (fun z => by rw [show σ20.2.1 9 j = σ.2.1 9 j from ra_F F15 (by decide) (ra_ne (by omega) (ra_F F6 (by decide) (ra_o (by decide) (ra_o (by decide) (ra_o (by decide) (ra_o (by decide) (ra_o (by decide) (rfl))))))))]; exact hit j a c)) (fun j a c9 => (Classical.em (j = r)).elim (fun z => by rw [z]; exact ⟨ra_F F15 (by decide) (ra_o (by decide) (ra_F F6 (by decide) (ra_o (by decide) (ra_o (by decide) (ra_o (by decide) (ra_o (by decide) (ra_eq))))))), ra_F F15 (by decide) (ra_o (by decide) (ra_F F6 (by decide) (ra_eq)))⟩) (fun z => ⟨(show σ20.2.1 13 j = σ.2.1 13 j from ra_F F15 (by decide) (ra_o (by decide) (ra_F F6 (by decide) (ra_o (by decide) (ra_o (by decide) (ra_o (by decide) (ra_o (by decide) (ra_ne (by omega) (rfl))))))))).trans (hd2 j a (by omega)).1, (show σ20.2.1 17 (12 * j) = σ.2.1 17 (12 * j) from ra_F F15 (by decide) (ra_o (by decide) (ra_F F6 (by decide) (ra_ne (by omega) (ra_o (by decide) (ra_o (by decide) (ra_o (by decide) (ra_o (by decide) (rfl))))))))).trans (hd2 j a (by omega)).2⟩)) rfl)
theorem dX12_read_271 : decode cX12_read 271 = .ok (.iload_n 2, 1) := by decide +kernel
theorem dX12_read_272 : decode cX12_read 272 = .ok (.bipush 6, 2) := by decide +kernel
theorem dX12_read_274 : decode cX12_read 274 = .ok (.if_icmp .ge 16, 3) := by decide +kernel
theorem dX12_read_277 : decode cX12_read 277 = .ok (.aload_n 0, 1) := by decide +kernel
theorem dX12_read_278 : decode cX12_read 278 = .ok (.getfield 95, 3) := by decide +kernel
theorem dX12_read_281 : decode cX12_read 281 = .ok (.iload_n 2, 1) := by decide +kernel
theorem dX12_read_282 : decode cX12_read 282 = .ok (.iconst 0, 1) := by decide +kernel
theorem dX12_read_283 : decode cX12_read 283 = .ok (.bastore, 1) := by decide +kernel
theorem dX12_read_284 : decode cX12_read 284 = .ok (.iinc 2 1, 3) := by decide +kernel
theorem dX12_read_287 : decode cX12_read 287 = .ok (.goto (-16), 3) := by decide +kernel
set_option maxHeartbeats 4000000 in
set_option maxRecDepth 20000 in
theorem l_rd271 (d : Nat) {b : Nat} {σ0 : MS} {c1 : Int} {post : Option Value → MS → Prop} (hR0 : RG σ0) (hx_290 : ∀ (i : Int) (σ : MS) , (Fr [] [48] [] σ0 σ) → (RG σ) → (BO 48 σ) → (∀ j, 0 ≤ j → j < 6 → σ.2.1 48 j = 0) → Tm (d + 1) m_X12_read 290 b σ [(2, .int (iI i)), (1, .int (iI c1)), (0, .ref b)] [] post) : ∀ (n : Nat) (i : Int) (σ : MS) , (Fr [] [48] [] σ0 σ) → (RG σ) → (0 ≤ i ∧ i ≤ 6) → (BO 48 σ) → (∀ j, 0 ≤ j → j < i → σ.2.1 48 j = 0) → (6 - i).toNat = n → Tm (d + 1) m_X12_read 271 b σ [(2, .int (iI i)), (1, .int (iI c1)), (0, .ref b)] [] post := by
  intro n
  induction n using Nat.strongRecOn with
  | _ n ih =>
    intro i σ hF hR h0 hb hz8 hm
    refine tm_iload_n dX12_read_271 rfl 0 rfl ?_
    refine tm_bipush dX12_read_272 (by decide) ?_
    refine tm_icmp_ge (tgt := 290) dX12_read_274 (by decide) ⟨by omega, by omega⟩ ⟨by decide, by decide⟩ (fun h1 => ?_) (fun h1 => ?_)
    · exact tm_sub [0, 1, 2] rfl (hx_290 (i) σ (Fr.rfl.trans (Fr.sub hF (by decide) (by decide) (by decide))) hR hb (fun j a b => hz8 j a (by omega)))
    · refine tm_aload_n dX12_read_277 rfl 2 rfl ?_
      refine tm_get (k := 48) (v := .ref (b + 1 + 26)) lay_12 dX12_read_278 (by decide) fl12_95 rfl ?_
      refine tm_iload_n dX12_read_281 rfl 0 rfl ?_
      refine tm_iconst dX12_read_282 ?_
      refine tm_zast (z := i) (v := 0) dX12_read_283 (show mT[26]? = some (48, 2, 6) from rfl) (by omega) (by omega) (by decide) (by omega) ?_
      refine tm_iinc (q0 := 0) (L' := [(2, .int (iI (i + 1))), (1, .int (iI c1)), (0, .ref b)]) dX12_read_284 rfl (by decide) rfl ?_
      refine tm_goto (tgt := 271) dX12_read_287 (by decide) ?_
      exact tm_sub [0, 1, 2] rfl (ih _ (by omega) (i + 1) (sA 48 (i) (0) σ) ((Fr.rfl.trans (Fr.sub hF (by decide) (by decide) (by decide))).A (by decide)) (hR.A (by omega)) (by omega) (hb.A (Or.inl rfl)) (fun j a b => if e : j = i then (by rw [e]; exact ra_eq) else ra_ne e (hz8 j a (by omega))) rfl)
end
