section
set_option maxHeartbeats 40000000 in
set_option maxRecDepth 20000 in
theorem f_behind1 (d : Nat) {b : Nat} {σ0 : MS} {r : Int} {k : Int} {post : Option Value → MS → Prop} (hr : 0 ≤ r ∧ r < 6) (hR0 : RG σ0) (hss : SSA σ0) (hk : 0 ≤ k ∧ k ≤ 220) (hx_70 : ∀ (n1 : Int) (σ : MS) , (Fr [] [54, 55, 56, 57, 58] [] σ0 σ) → (RG σ) → (SCA σ) → (BH1 σ0 σ r k 144) → Tm (d + 2) m_X12_behindItem 70 b σ [(3, .int (iI n1)), (0, .ref b), (1, .int (iI r)), (2, .int (iI k))] [] post) : ∀ (n : Nat) (n1 : Int) (σ : MS) , (Fr [] [54, 55, 56, 57, 58] [] σ0 σ) → (RG σ) → (0 ≤ n1 ∧ n1 ≤ 144) → (SCA σ) → (BH1 σ0 σ r k n1) → (144 - n1).toNat = n → Tm (d + 2) m_X12_behindItem 2 b σ [(3, .int (iI n1)), (0, .ref b), (1, .int (iI r)), (2, .int (iI k))] [] post := by
  intro n
  induction n using Nat.strongRecOn with
  | _ n ih =>
    intro n1 σ hF hR h0 hsc hb hm
    refine tm_iload_n dX12_behindItem_2 rfl 0 rfl ?_
    refine tm_sipush dX12_behindItem_3 (by decide) ?_
    refine tm_icmp_ge (tgt := 70) dX12_behindItem_6 (by decide) ⟨by omega, by omega⟩ ⟨by decide, by decide⟩ (fun h1 => ?_) (fun h1 => ?_)
    · exact tm_sub [0, 1, 2, 3] rfl (hx_70 (n1) σ (Fr.rfl.trans (Fr.sub hF (by decide) (by decide) (by decide))) hR hsc (by rw [show (144 : Int) = n1 by omega]; exact hb))
    · refine tm_sipush dX12_behindItem_9 (by decide) ?_
      refine tm_iload_n dX12_behindItem_12 rfl 2 rfl ?_
      refine tm_imul dX12_behindItem_13 ?_
      refine tm_sipush dX12_behindItem_14 (by decide) ?_
      refine tm_iload_n dX12_behindItem_17 rfl 3 rfl ?_
      refine tm_imul dX12_behindItem_18 ?_
      refine tm_iadd dX12_behindItem_19 ?_
      refine tm_iload_n dX12_behindItem_20 rfl 0 rfl ?_
      refine tm_iadd dX12_behindItem_21 ?_
      refine tm_istore (L' := [(4, .int (iI (((31824 * r) + (144 * k)) + n1))), (3, .int (iI n1)), (0, .ref b), (1, .int (iI r)), (2, .int (iI k))]) dX12_behindItem_22 (by decide) rfl ?_
      refine tm_aload_n dX12_behindItem_24 rfl 2 rfl ?_
      refine tm_iload_n dX12_behindItem_25 rfl 1 rfl ?_
      refine tm_aload_n dX12_behindItem_26 rfl 2 rfl ?_
      refine tm_get (k := 49) (v := .ref (b + 1 + 27)) lay_12 dX12_behindItem_27 (by decide) fl12_99 rfl ?_
      refine tm_iload dX12_behindItem_30 0 rfl ?_
      refine tm_iald (z := ((31824 * r) + (144 * k)) + n1) (v := σ0.2.1 49 (((31824 * r) + (144 * k)) + n1)) dX12_behindItem_32 (show mT[27]? = some (49, 0, 190944) from rfl) (by omega) (by omega) (by decide) (ra_F hF (by decide) (rfl)) ?_
      have g2 := RG.a hR0 49 (((31824 * r) + (144 * k)) + n1)
      refine tm_aload_n dX12_behindItem_33 rfl 2 rfl ?_
      refine tm_get (k := 50) (v := .ref (b + 1 + 28)) lay_12 dX12_behindItem_34 (by decide) fl12_102 rfl ?_
      refine tm_iload dX12_behindItem_37 0 rfl ?_
      refine tm_iald (z := ((31824 * r) + (144 * k)) + n1) (v := σ0.2.1 50 (((31824 * r) + (144 * k)) + n1)) dX12_behindItem_39 (show mT[28]? = some (50, 0, 190944) from rfl) (by omega) (by omega) (by decide) (ra_F hF (by decide) (rfl)) ?_
      have g3 := RG.a hR0 50 (((31824 * r) + (144 * k)) + n1)
      refine tm_aload_n dX12_behindItem_40 rfl 2 rfl ?_
      refine tm_get (k := 51) (v := .ref (b + 1 + 29)) lay_12 dX12_behindItem_41 (by decide) fl12_105 rfl ?_
      refine tm_iload dX12_behindItem_44 0 rfl ?_
      refine tm_iald (z := ((31824 * r) + (144 * k)) + n1) (v := σ0.2.1 51 (((31824 * r) + (144 * k)) + n1)) dX12_behindItem_46 (show mT[29]? = some (51, 0, 190944) from rfl) (by omega) (by omega) (by decide) (ra_F hF (by decide) (rfl)) ?_
      have g4 := RG.a hR0 51 (((31824 * r) + (144 * k)) + n1)
      refine tm_aload_n dX12_behindItem_47 rfl 2 rfl ?_
      refine tm_get (k := 52) (v := .ref (b + 1 + 30)) lay_12 dX12_behindItem_48 (by decide) fl12_108 rfl ?_
      refine tm_iload dX12_behindItem_51 0 rfl ?_
      refine tm_iald (z := ((31824 * r) + (144 * k)) + n1) (v := σ0.2.1 52 (((31824 * r) + (144 * k)) + n1)) dX12_behindItem_53 (show mT[30]? = some (52, 0, 190944) from rfl) (by omega) (by omega) (by decide) (ra_F hF (by decide) (rfl)) ?_
      have g5 := RG.a hR0 52 (((31824 * r) + (144 * k)) + n1)
      refine tm_aload_n dX12_behindItem_54 rfl 2 rfl ?_
      refine tm_get (k := 53) (v := .ref (b + 1 + 31)) lay_12 dX12_behindItem_55 (by decide) fl12_111 rfl ?_
      refine tm_iload dX12_behindItem_58 0 rfl ?_
      refine tm_iald (z := ((31824 * r) + (144 * k)) + n1) (v := σ0.2.1 53 (((31824 * r) + (144 * k)) + n1)) dX12_behindItem_60 (show mT[31]? = some (53, 0, 190944) from rfl) (by omega) (by omega) (by decide) (ra_F hF (by decide) (rfl)) ?_
      have g6 := RG.a hR0 53 (((31824 * r) + (144 * k)) + n1)
      refine tm_callV (M := m_X12_behindItem) (pc := 61) (ix := 416) (M' := m_X12_setNow) (As := [.int (iI n1), .int (iI (σ0.2.1 49 (((31824 * r) + (144 * k)) + n1))), .int (iI (σ0.2.1 50 (((31824 * r) + (144 * k)) + n1))), .int (iI (σ0.2.1 51 (((31824 * r) + (144 * k)) + n1))), .int (iI (σ0.2.1 52 (((31824 * r) + (144 * k)) + n1))), .int (iI (σ0.2.1 53 (((31824 * r) + (144 * k)) + n1)))]) (rest := []) dX12_behindItem_61 ok_X12_setNow im_X12_setNow se_X12_setNow ml12_416 np_X12_setNow rfl rfl (Nat.le_of_ble_eq_true rfl) (Nat.le_of_ble_eq_true rfl) rfl (c_X12_setNow (d) (σ := σ) (n := n1) (w := σ0.2.1 49 (((31824 * r) + (144 * k)) + n1)) (ka := σ0.2.1 50 (((31824 * r) + (144 * k)) + n1)) (a := σ0.2.1 51 (((31824 * r) + (144 * k)) + n1)) (kb := σ0.2.1 52 (((31824 * r) + (144 * k)) + n1)) (c := σ0.2.1 53 (((31824 * r) + (144 * k)) + n1)) (by omega)) (fun r7 σ8 hp => ?_)
      obtain ⟨rfl, f10⟩ := hp
      subst f10
      show Tm _ _ 64 b (fNow (n1) (σ0.2.1 49 (((31824 * r) + (144 * k)) + n1)) (σ0.2.1 50 (((31824 * r) + (144 * k)) + n1)) (σ0.2.1 51 (((31824 * r) + (144 * k)) + n1)) (σ0.2.1 52 (((31824 * r) + (144 * k)) + n1)) (σ0.2.1 53 (((31824 * r) + (144 * k)) + n1)) σ) [(4, .int (iI (((31824 * r) + (144 * k)) + n1))), (3, .int (iI n1)), (0, .ref b), (1, .int (iI r)), (2, .int (iI k))] [] _
      refine tm_iinc (q0 := 1) (L' := [(3, .int (iI (n1 + 1))), (4, .int (iI (((31824 * r) + (144 * k)) + n1))), (0, .ref b), (1, .int (iI r)), (2, .int (iI k))]) dX12_behindItem_64 rfl (by decide) rfl ?_
      refine tm_goto (tgt := 2) dX12_behindItem_67 (by decide) ?_
      exact tm_sub [0, 2, 3, 4] rfl (ih _ (by omega) (n1 + 1) (fNow (n1) (σ0.2.1 49 (((31824 * r) + (144 * k)) + n1)) (σ0.2.1 50 (((31824 * r) + (144 * k)) + n1)) (σ0.2.1 51 (((31824 * r) + (144 * k)) + n1)) (σ0.2.1 52 (((31824 * r) + (144 * k)) + n1)) (σ0.2.1 53 (((31824 * r) + (144 * k)) + n1)) σ) ((Fr.rfl.trans (Fr.sub hF (by decide) (by decide) (by decide))).trans (Fr.sub fNow_fr (by decide) (by decide) (by decide))) (hR.now (by omega)) (by omega) (hsc.put (hss _).1 (hss _).2) (hb.put (by omega) rfl) rfl)
set_option maxHeartbeats 40000000 in
set_option maxRecDepth 20000 in
theorem f_behind2 (d : Nat) {b : Nat} {σ0 : MS} {r : Int} {k : Int} {post : Option Value → MS → Prop} (hr : 0 ≤ r ∧ r < 6) (hR0 : RG σ0) (hk : 0 ≤ k ∧ k < 220) (hfe : 0 ≤ σ0.2.1 4 (220 * r + k) ∧ σ0.2.1 4 (220 * r + k) < 12) (hx_244 : ∀ (n1 : Int) (σ : MS) , (Fr [] [54, 55, 56, 57, 58] [] σ0 σ) → (RG σ) → (SCA σ) → (BHL σ0 σ (σ0.2.1 4 (220 * r + k)) 12) → Tm (d + 2) m_X12_behindItem 244 b σ [(4, .int (iI n1)), (3, .int (iI (220 * r + k))), (0, .ref b), (1, .int (iI r)), (2, .int (iI k))] [] post) : ∀ (n : Nat) (n1 : Int) (σ : MS) , (Fr [] [54, 55, 56, 57, 58] [] σ0 σ) → (RG σ) → (0 ≤ n1 ∧ n1 ≤ 12) → (SCA σ) → (BHL σ0 σ (σ0.2.1 4 (220 * r + k)) n1) → (12 - n1).toNat = n → Tm (d + 2) m_X12_behindItem 209 b σ [(4, .int (iI n1)), (3, .int (iI (220 * r + k))), (0, .ref b), (1, .int (iI r)), (2, .int (iI k))] [] post := by
  intro n
  induction n using Nat.strongRecOn with
  | _ n ih =>
    intro n1 σ hF hR h0 hsc hl hm
    have e4 : σ.2.1 4 (220 * r + k) = σ0.2.1 4 (220 * r + k) := congrFun (hF.2.1 4 (by decide)) _
    refine tm_iload dX12_behindItem_209 0 rfl ?_
    refine tm_bipush dX12_behindItem_211 (by decide) ?_
    refine tm_icmp_ge (tgt := 244) dX12_behindItem_213 (by decide) ⟨by omega, by omega⟩ ⟨by decide, by decide⟩ (fun h1 => ?_) (fun h1 => ?_)
    · exact tm_sub [0, 1, 2, 3, 4] rfl (hx_244 (n1) σ (Fr.rfl.trans (Fr.sub hF (by decide) (by decide) (by decide))) hR hsc (by rw [show (12 : Int) = n1 by omega]; exact hl))
    · refine tm_aload_n dX12_behindItem_216 rfl 2 rfl ?_
      refine tm_bipush dX12_behindItem_217 (by decide) ?_
      refine tm_aload_n dX12_behindItem_219 rfl 2 rfl ?_
      refine tm_get (k := 4) (v := .ref (b + 1 + 2)) lay_12 dX12_behindItem_220 (by decide) fl12_17 rfl ?_
      refine tm_iload_n dX12_behindItem_223 rfl 1 rfl ?_
      refine tm_iald (z := 220 * r + k) (v := σ0.2.1 4 (220 * r + k)) dX12_behindItem_224 (show mT[2]? = some (4, 0, 2860) from rfl) (by omega) (by omega) (by decide) (ra_F hF (by decide) (rfl)) ?_
      have g2 := RG.a hR0 4 (220 * r + k)
      refine tm_imul dX12_behindItem_225 ?_
      refine tm_iload dX12_behindItem_226 0 rfl ?_
      refine tm_iadd dX12_behindItem_228 ?_
      refine tm_bipush dX12_behindItem_229 (by decide) ?_
      refine tm_iconst dX12_behindItem_231 ?_
      refine tm_iconst dX12_behindItem_232 ?_
      refine tm_iconst dX12_behindItem_233 ?_
      refine tm_iconst dX12_behindItem_234 ?_
      refine tm_callV (M := m_X12_behindItem) (pc := 235) (ix := 416) (M' := m_X12_setNow) (As := [.int (iI ((12 * (σ0.2.1 4 (220 * r + k))) + n1)), .int (iI 11), .int (iI 0), .int (iI 0), .int (iI 0), .int (iI 0)]) (rest := []) dX12_behindItem_235 ok_X12_setNow im_X12_setNow se_X12_setNow ml12_416 np_X12_setNow rfl rfl (Nat.le_of_ble_eq_true rfl) (Nat.le_of_ble_eq_true rfl) rfl (c_X12_setNow (d) (σ := σ) (n := (12 * (σ0.2.1 4 (220 * r + k))) + n1) (w := 11) (ka := 0) (a := 0) (kb := 0) (c := 0) (by omega)) (fun r3 σ4 hp => ?_)
      obtain ⟨rfl, f6⟩ := hp
      subst f6
      show Tm _ _ 238 b (fNow ((12 * (σ0.2.1 4 (220 * r + k))) + n1) (11) (0) (0) (0) (0) σ) [(4, .int (iI n1)), (3, .int (iI (220 * r + k))), (0, .ref b), (1, .int (iI r)), (2, .int (iI k))] [] _
      refine tm_iinc (q0 := 0) (L' := [(4, .int (iI (n1 + 1))), (3, .int (iI (220 * r + k))), (0, .ref b), (1, .int (iI r)), (2, .int (iI k))]) dX12_behindItem_238 rfl (by decide) rfl ?_
      refine tm_goto (tgt := 209) dX12_behindItem_241 (by decide) ?_
      exact tm_sub [0, 1, 2, 3, 4] rfl (ih _ (by omega) (n1 + 1) (fNow ((12 * (σ0.2.1 4 (220 * r + k))) + n1) (11) (0) (0) (0) (0) σ) ((Fr.rfl.trans (Fr.sub hF (by decide) (by decide) (by decide))).trans (Fr.sub fNow_fr (by decide) (by decide) (by decide))) (hR.now (by omega)) (by omega) (hsc.put (by omega) (by omega)) (hl.put (by omega) (by omega)) rfl)
set_option maxHeartbeats 40000000 in
set_option maxRecDepth 20000 in
theorem f_behind3 (d : Nat) {b : Nat} {σ0 : MS} {r : Int} {k : Int} {post : Option Value → MS → Prop} (hr : 0 ≤ r ∧ r < 6) (hR0 : RG σ0) (hk : 0 ≤ k ∧ k < 220) (hx_339 : ∀ (n1 : Int) (σ : MS) , (Fr [] [54, 55, 56, 57, 58] [] σ0 σ) → (RG σ) → (SCA σ) → (BHO σ0 σ (σ0.2.1 3 (220 * r + k) ≤ 5 ∨ σ0.2.1 3 (220 * r + k) = 10) (σ0.2.1 4 (220 * r + k)) 144) → Tm (d + 2) m_X12_behindItem 339 b σ [(4, .int (iI n1)), (3, .int (iI (220 * r + k))), (0, .ref b), (1, .int (iI r)), (2, .int (iI k))] [] post) : ∀ (n : Nat) (n1 : Int) (σ : MS) , (Fr [] [54, 55, 56, 57, 58] [] σ0 σ) → (RG σ) → (0 ≤ n1 ∧ n1 ≤ 144) → (SCA σ) → (BHO σ0 σ (σ0.2.1 3 (220 * r + k) ≤ 5 ∨ σ0.2.1 3 (220 * r + k) = 10) (σ0.2.1 4 (220 * r + k)) n1) → (144 - n1).toNat = n → Tm (d + 2) m_X12_behindItem 247 b σ [(4, .int (iI n1)), (3, .int (iI (220 * r + k))), (0, .ref b), (1, .int (iI r)), (2, .int (iI k))] [] post := by
  intro n
  induction n using Nat.strongRecOn with
  | _ n ih =>
    intro n1 σ hF hR h0 hsc ho hm
    have e4 : σ.2.1 4 (220 * r + k) = σ0.2.1 4 (220 * r + k) := congrFun (hF.2.1 4 (by decide)) _
    have e3 : σ.2.1 3 (220 * r + k) = σ0.2.1 3 (220 * r + k) := congrFun (hF.2.1 3 (by decide)) _
    refine tm_iload dX12_behindItem_247 0 rfl ?_
    refine tm_sipush dX12_behindItem_249 (by decide) ?_
    refine tm_icmp_ge (tgt := 339) dX12_behindItem_252 (by decide) ⟨by omega, by omega⟩ ⟨by decide, by decide⟩ (fun h1 => ?_) (fun h1 => ?_)
    · exact tm_sub [0, 1, 2, 3, 4] rfl (hx_339 (n1) σ (Fr.rfl.trans (Fr.sub hF (by decide) (by decide) (by decide))) hR hsc (ho.end (by omega)))
    · refine tm_aload_n dX12_behindItem_255 rfl 2 rfl ?_
      refine tm_get (k := 3) (v := .ref (b + 1 + 1)) lay_12 dX12_behindItem_256 (by decide) fl12_13 rfl ?_
      refine tm_iload_n dX12_behindItem_259 rfl 1 rfl ?_
      refine tm_iald (z := 220 * r + k) (v := σ0.2.1 3 (220 * r + k)) dX12_behindItem_260 (show mT[1]? = some (3, 0, 2860) from rfl) (by omega) (by omega) (by decide) (ra_F hF (by decide) (rfl)) ?_
      have g2 := RG.a hR0 3 (220 * r + k)
      refine tm_callS (M := m_X12_behindItem) (pc := 261) (ix := 192) (M' := m_X12_writes) (As := [.int (iI (σ0.2.1 3 (220 * r + k)))]) (rest := []) dX12_behindItem_261 ok_X12_writes stt_X12_writes ml12_192 np_X12_writes rfl (Nat.le_of_ble_eq_true rfl) (Nat.le_of_ble_eq_true rfl) rfl (c_X12_writes (d) (σ := σ) (x := σ0.2.1 3 (220 * r + k)) (by omega)) (fun r3 σ4 hp => ?_)
      obtain ⟨v5, rfl, rfl, f6, f7⟩ := hp
      show Tm _ _ 264 b σ [(4, .int (iI n1)), (3, .int (iI (220 * r + k))), (0, .ref b), (1, .int (iI r)), (2, .int (iI k))] [.int (iI v5)] _
      refine tm_if_eq (tgt := 339) dX12_behindItem_264 (by decide) ⟨by omega, by omega⟩ (fun h8 => ?_) (fun h8 => ?_)
      · exact tm_sub [0, 1, 2, 3, 4] rfl (hx_339 (n1) σ (Fr.rfl.trans (Fr.sub hF (by decide) (by decide) (by decide))) hR hsc (ho.end (by omega)))
      · refine tm_aload_n dX12_behindItem_267 rfl 2 rfl ?_
        refine tm_get (k := 55) (v := .ref (b + 1 + 33)) lay_12 dX12_behindItem_268 (by decide) fl12_117 rfl ?_
        refine tm_iload dX12_behindItem_271 0 rfl ?_
        refine tm_iald (z := n1) (v := σ.2.1 55 n1) dX12_behindItem_273 (show mT[33]? = some (55, 0, 144) from rfl) (by omega) (by omega) (by decide) (rfl) ?_
        have g9 := RG.a hR 55 (n1)
        refine tm_iconst dX12_behindItem_274 ?_
        refine tm_icmp_ne (tgt := 294) dX12_behindItem_275 (by decide) ⟨by omega, by omega⟩ ⟨by decide, by decide⟩ (fun h10 => ?_) (fun h10 => ?_)
        · refine tm_aload_n dX12_behindItem_294 rfl 2 rfl ?_
          refine tm_get (k := 57) (v := .ref (b + 1 + 35)) lay_12 dX12_behindItem_295 (by decide) fl12_123 rfl ?_
          refine tm_iload dX12_behindItem_298 0 rfl ?_
          refine tm_iald (z := n1) (v := σ.2.1 57 n1) dX12_behindItem_300 (show mT[35]? = some (57, 0, 144) from rfl) (by omega) (by omega) (by decide) (rfl) ?_
          have g11 := RG.a hR 57 (n1)
          refine tm_iconst dX12_behindItem_301 ?_
          refine tm_icmp_ne (tgt := 333) dX12_behindItem_302 (by decide) ⟨by omega, by omega⟩ ⟨by decide, by decide⟩ (fun h12 => ?_) (fun h12 => ?_)
          · refine tm_iinc (q0 := 0) (L' := [(4, .int (iI (n1 + 1))), (3, .int (iI (220 * r + k))), (0, .ref b), (1, .int (iI r)), (2, .int (iI k))]) dX12_behindItem_333 rfl (by decide) rfl ?_
            refine tm_goto (tgt := 247) dX12_behindItem_336 (by decide) ?_
            exact tm_sub [0, 1, 2, 3, 4] rfl (ih _ (by omega) (n1 + 1) σ (Fr.rfl.trans (Fr.sub hF (by decide) (by decide) (by decide))) hR (by omega) (by first | exact hsc | exact hsc.put (by omega) (by omega)) (ho.no (by omega) (by omega)) rfl)
          · refine tm_aload_n dX12_behindItem_305 rfl 2 rfl ?_
            refine tm_get (k := 58) (v := .ref (b + 1 + 36)) lay_12 dX12_behindItem_306 (by decide) fl12_126 rfl ?_
            refine tm_iload dX12_behindItem_309 0 rfl ?_
            refine tm_iald (z := n1) (v := σ.2.1 58 n1) dX12_behindItem_311 (show mT[36]? = some (58, 0, 144) from rfl) (by omega) (by omega) (by decide) (rfl) ?_
            have g13 := RG.a hR 58 (n1)
            refine tm_aload_n dX12_behindItem_312 rfl 2 rfl ?_
            refine tm_get (k := 4) (v := .ref (b + 1 + 2)) lay_12 dX12_behindItem_313 (by decide) fl12_17 rfl ?_
            refine tm_iload_n dX12_behindItem_316 rfl 1 rfl ?_
            refine tm_iald (z := 220 * r + k) (v := σ0.2.1 4 (220 * r + k)) dX12_behindItem_317 (show mT[2]? = some (4, 0, 2860) from rfl) (by omega) (by omega) (by decide) (ra_F hF (by decide) (rfl)) ?_
            have g14 := RG.a hR0 4 (220 * r + k)
            refine tm_icmp_ne (tgt := 333) dX12_behindItem_318 (by decide) ⟨by omega, by omega⟩ ⟨by omega, by omega⟩ (fun h15 => ?_) (fun h15 => ?_)
            · refine tm_iinc (q0 := 0) (L' := [(4, .int (iI (n1 + 1))), (3, .int (iI (220 * r + k))), (0, .ref b), (1, .int (iI r)), (2, .int (iI k))]) dX12_behindItem_333 rfl (by decide) rfl ?_
              refine tm_goto (tgt := 247) dX12_behindItem_336 (by decide) ?_
              exact tm_sub [0, 1, 2, 3, 4] rfl (ih _ (by omega) (n1 + 1) σ (Fr.rfl.trans (Fr.sub hF (by decide) (by decide) (by decide))) hR (by omega) (by first | exact hsc | exact hsc.put (by omega) (by omega)) (ho.no (by omega) (by omega)) rfl)
            · refine tm_aload_n dX12_behindItem_321 rfl 2 rfl ?_
              refine tm_iload dX12_behindItem_322 0 rfl ?_
              refine tm_bipush dX12_behindItem_324 (by decide) ?_
              refine tm_iconst dX12_behindItem_326 ?_
              refine tm_iconst dX12_behindItem_327 ?_
              refine tm_iconst dX12_behindItem_328 ?_
              refine tm_iconst dX12_behindItem_329 ?_
              refine tm_callV (M := m_X12_behindItem) (pc := 330) (ix := 416) (M' := m_X12_setNow) (As := [.int (iI n1), .int (iI 13), .int (iI 0), .int (iI 0), .int (iI 0), .int (iI 0)]) (rest := []) dX12_behindItem_330 ok_X12_setNow im_X12_setNow se_X12_setNow ml12_416 np_X12_setNow rfl rfl (Nat.le_of_ble_eq_true rfl) (Nat.le_of_ble_eq_true rfl) rfl (c_X12_setNow (d) (σ := σ) (n := n1) (w := 13) (ka := 0) (a := 0) (kb := 0) (c := 0) (by omega)) (fun r16 σ17 hp => ?_)
              obtain ⟨rfl, f19⟩ := hp
              subst f19
              show Tm _ _ 333 b (fNow (n1) (13) (0) (0) (0) (0) σ) [(4, .int (iI n1)), (3, .int (iI (220 * r + k))), (0, .ref b), (1, .int (iI r)), (2, .int (iI k))] [] _
              refine tm_iinc (q0 := 0) (L' := [(4, .int (iI (n1 + 1))), (3, .int (iI (220 * r + k))), (0, .ref b), (1, .int (iI r)), (2, .int (iI k))]) dX12_behindItem_333 rfl (by decide) rfl ?_
              refine tm_goto (tgt := 247) dX12_behindItem_336 (by decide) ?_
              exact tm_sub [0, 1, 2, 3, 4] rfl (ih _ (by omega) (n1 + 1) (fNow (n1) (13) (0) (0) (0) (0) σ) ((Fr.rfl.trans (Fr.sub hF (by decide) (by decide) (by decide))).trans (Fr.sub fNow_fr (by decide) (by decide) (by decide))) (hR.now (by omega)) (by omega) (by first | exact hsc | exact hsc.put (by omega) (by omega)) (ho.put (by omega) (by omega) (by omega)) rfl)
        · refine tm_aload_n dX12_behindItem_278 rfl 2 rfl ?_
          refine tm_get (k := 56) (v := .ref (b + 1 + 34)) lay_12 dX12_behindItem_279 (by decide) fl12_120 rfl ?_
          refine tm_iload dX12_behindItem_282 0 rfl ?_
          refine tm_iald (z := n1) (v := σ.2.1 56 n1) dX12_behindItem_284 (show mT[34]? = some (56, 0, 144) from rfl) (by omega) (by omega) (by decide) (rfl) ?_
          have g20 := RG.a hR 56 (n1)
          refine tm_aload_n dX12_behindItem_285 rfl 2 rfl ?_
          refine tm_get (k := 4) (v := .ref (b + 1 + 2)) lay_12 dX12_behindItem_286 (by decide) fl12_17 rfl ?_
          refine tm_iload_n dX12_behindItem_289 rfl 1 rfl ?_
          refine tm_iald (z := 220 * r + k) (v := σ0.2.1 4 (220 * r + k)) dX12_behindItem_290 (show mT[2]? = some (4, 0, 2860) from rfl) (by omega) (by omega) (by decide) (ra_F hF (by decide) (rfl)) ?_
          have g21 := RG.a hR0 4 (220 * r + k)
          refine tm_icmp_eq (tgt := 321) dX12_behindItem_291 (by decide) ⟨by omega, by omega⟩ ⟨by omega, by omega⟩ (fun h22 => ?_) (fun h22 => ?_)
          · refine tm_aload_n dX12_behindItem_321 rfl 2 rfl ?_
            refine tm_iload dX12_behindItem_322 0 rfl ?_
            refine tm_bipush dX12_behindItem_324 (by decide) ?_
            refine tm_iconst dX12_behindItem_326 ?_
            refine tm_iconst dX12_behindItem_327 ?_
            refine tm_iconst dX12_behindItem_328 ?_
            refine tm_iconst dX12_behindItem_329 ?_
            refine tm_callV (M := m_X12_behindItem) (pc := 330) (ix := 416) (M' := m_X12_setNow) (As := [.int (iI n1), .int (iI 13), .int (iI 0), .int (iI 0), .int (iI 0), .int (iI 0)]) (rest := []) dX12_behindItem_330 ok_X12_setNow im_X12_setNow se_X12_setNow ml12_416 np_X12_setNow rfl rfl (Nat.le_of_ble_eq_true rfl) (Nat.le_of_ble_eq_true rfl) rfl (c_X12_setNow (d) (σ := σ) (n := n1) (w := 13) (ka := 0) (a := 0) (kb := 0) (c := 0) (by omega)) (fun r23 σ24 hp => ?_)
            obtain ⟨rfl, f26⟩ := hp
            subst f26
            show Tm _ _ 333 b (fNow (n1) (13) (0) (0) (0) (0) σ) [(4, .int (iI n1)), (3, .int (iI (220 * r + k))), (0, .ref b), (1, .int (iI r)), (2, .int (iI k))] [] _
            refine tm_iinc (q0 := 0) (L' := [(4, .int (iI (n1 + 1))), (3, .int (iI (220 * r + k))), (0, .ref b), (1, .int (iI r)), (2, .int (iI k))]) dX12_behindItem_333 rfl (by decide) rfl ?_
            refine tm_goto (tgt := 247) dX12_behindItem_336 (by decide) ?_
            exact tm_sub [0, 1, 2, 3, 4] rfl (ih _ (by omega) (n1 + 1) (fNow (n1) (13) (0) (0) (0) (0) σ) ((Fr.rfl.trans (Fr.sub hF (by decide) (by decide) (by decide))).trans (Fr.sub fNow_fr (by decide) (by decide) (by decide))) (hR.now (by omega)) (by omega) (by first | exact hsc | exact hsc.put (by omega) (by omega)) (ho.put (by omega) (by omega) (by omega)) rfl)
          · refine tm_aload_n dX12_behindItem_294 rfl 2 rfl ?_
            refine tm_get (k := 57) (v := .ref (b + 1 + 35)) lay_12 dX12_behindItem_295 (by decide) fl12_123 rfl ?_
            refine tm_iload dX12_behindItem_298 0 rfl ?_
            refine tm_iald (z := n1) (v := σ.2.1 57 n1) dX12_behindItem_300 (show mT[35]? = some (57, 0, 144) from rfl) (by omega) (by omega) (by decide) (rfl) ?_
            have g27 := RG.a hR 57 (n1)
            refine tm_iconst dX12_behindItem_301 ?_
            refine tm_icmp_ne (tgt := 333) dX12_behindItem_302 (by decide) ⟨by omega, by omega⟩ ⟨by decide, by decide⟩ (fun h32 => ?_) (fun h32 => ?_)
            · refine tm_iinc (q0 := 0) (L' := [(4, .int (iI (n1 + 1))), (3, .int (iI (220 * r + k))), (0, .ref b), (1, .int (iI r)), (2, .int (iI k))]) dX12_behindItem_333 rfl (by decide) rfl ?_
              refine tm_goto (tgt := 247) dX12_behindItem_336 (by decide) ?_
              exact tm_sub [0, 1, 2, 3, 4] rfl (ih _ (by omega) (n1 + 1) σ (Fr.rfl.trans (Fr.sub hF (by decide) (by decide) (by decide))) hR (by omega) (by first | exact hsc | exact hsc.put (by omega) (by omega)) (ho.no (by omega) (by omega)) rfl)
            · refine tm_aload_n dX12_behindItem_305 rfl 2 rfl ?_
              refine tm_get (k := 58) (v := .ref (b + 1 + 36)) lay_12 dX12_behindItem_306 (by decide) fl12_126 rfl ?_
              refine tm_iload dX12_behindItem_309 0 rfl ?_
              refine tm_iald (z := n1) (v := σ.2.1 58 n1) dX12_behindItem_311 (show mT[36]? = some (58, 0, 144) from rfl) (by omega) (by omega) (by decide) (rfl) ?_
              have g33 := RG.a hR 58 (n1)
              refine tm_aload_n dX12_behindItem_312 rfl 2 rfl ?_
              refine tm_get (k := 4) (v := .ref (b + 1 + 2)) lay_12 dX12_behindItem_313 (by decide) fl12_17 rfl ?_
              refine tm_iload_n dX12_behindItem_316 rfl 1 rfl ?_
              refine tm_iald (z := 220 * r + k) (v := σ0.2.1 4 (220 * r + k)) dX12_behindItem_317 (show mT[2]? = some (4, 0, 2860) from rfl) (by omega) (by omega) (by decide) (ra_F hF (by decide) (rfl)) ?_
              have g34 := RG.a hR0 4 (220 * r + k)
              refine tm_icmp_ne (tgt := 333) dX12_behindItem_318 (by decide) ⟨by omega, by omega⟩ ⟨by omega, by omega⟩ (fun h35 => ?_) (fun h35 => ?_)
              · refine tm_iinc (q0 := 0) (L' := [(4, .int (iI (n1 + 1))), (3, .int (iI (220 * r + k))), (0, .ref b), (1, .int (iI r)), (2, .int (iI k))]) dX12_behindItem_333 rfl (by decide) rfl ?_
                refine tm_goto (tgt := 247) dX12_behindItem_336 (by decide) ?_
                exact tm_sub [0, 1, 2, 3, 4] rfl (ih _ (by omega) (n1 + 1) σ (Fr.rfl.trans (Fr.sub hF (by decide) (by decide) (by decide))) hR (by omega) (by first | exact hsc | exact hsc.put (by omega) (by omega)) (ho.no (by omega) (by omega)) rfl)
              · refine tm_aload_n dX12_behindItem_321 rfl 2 rfl ?_
                refine tm_iload dX12_behindItem_322 0 rfl ?_
                refine tm_bipush dX12_behindItem_324 (by decide) ?_
                refine tm_iconst dX12_behindItem_326 ?_
                refine tm_iconst dX12_behindItem_327 ?_
                refine tm_iconst dX12_behindItem_328 ?_
                refine tm_iconst dX12_behindItem_329 ?_
                refine tm_callV (M := m_X12_behindItem) (pc := 330) (ix := 416) (M' := m_X12_setNow) (As := [.int (iI n1), .int (iI 13), .int (iI 0), .int (iI 0), .int (iI 0), .int (iI 0)]) (rest := []) dX12_behindItem_330 ok_X12_setNow im_X12_setNow se_X12_setNow ml12_416 np_X12_setNow rfl rfl (Nat.le_of_ble_eq_true rfl) (Nat.le_of_ble_eq_true rfl) rfl (c_X12_setNow (d) (σ := σ) (n := n1) (w := 13) (ka := 0) (a := 0) (kb := 0) (c := 0) (by omega)) (fun r36 σ37 hp => ?_)
                obtain ⟨rfl, f39⟩ := hp
                subst f39
                show Tm _ _ 333 b (fNow (n1) (13) (0) (0) (0) (0) σ) [(4, .int (iI n1)), (3, .int (iI (220 * r + k))), (0, .ref b), (1, .int (iI r)), (2, .int (iI k))] [] _
                refine tm_iinc (q0 := 0) (L' := [(4, .int (iI (n1 + 1))), (3, .int (iI (220 * r + k))), (0, .ref b), (1, .int (iI r)), (2, .int (iI k))]) dX12_behindItem_333 rfl (by decide) rfl ?_
                refine tm_goto (tgt := 247) dX12_behindItem_336 (by decide) ?_
                exact tm_sub [0, 1, 2, 3, 4] rfl (ih _ (by omega) (n1 + 1) (fNow (n1) (13) (0) (0) (0) (0) σ) ((Fr.rfl.trans (Fr.sub hF (by decide) (by decide) (by decide))).trans (Fr.sub fNow_fr (by decide) (by decide) (by decide))) (hR.now (by omega)) (by omega) (by first | exact hsc | exact hsc.put (by omega) (by omega)) (ho.put (by omega) (by omega) (by omega)) rfl)
set_option maxHeartbeats 40000000 in
set_option maxRecDepth 20000 in
theorem f_X12_behindItem (d : Nat) {b : Nat} {σ : MS} {r : Int} {k : Int} {F : Int} (hr : 0 ≤ r ∧ r < 6) (hR : RG σ) (hit : ITM σ) (hpar : PAR σ) (hok : OKS σ F r) (hF12 : 1 ≤ F ∧ F ≤ 12) (hss : SSA σ) (hsc : SCA σ) (hk : 0 ≤ k ∧ k < σ.2.1 9 r) : Tm (d + 4) m_X12_behindItem 0 b σ [(0, .ref b), (1, .int (iI r)), (2, .int (iI k))] [] (fun ro σ2 => ro = none ∧ (Fr [] [54, 55, 56, 57, 58] [] σ σ2) ∧ (RG σ2) ∧ (SCA σ2) ∧ (BHF σ σ2 r k)) := by
  have q1 := hit r (by omega) (by omega)
  have q2 := (hok k (by omega) (by omega))
  have q3 := q2.2.2.2.1
  have q4 := q2.2.2.2.2.1
  have q5 := q2.2.2.2.2.2.1
  have q6 := q2.2.2.2.2.2.2.2.1 0 (by decide) (by decide)
  have q7 := q2.2.2.2.2.2.2.2.1 1 (by decide) (by decide)
  rw [Int.add_zero] at q6
  refine tm_iconst dX12_behindItem_0 ?_
  refine tm_istore_n (L' := [(3, .int (iI 0)), (0, .ref b), (1, .int (iI r)), (2, .int (iI k))]) dX12_behindItem_1 rfl (by decide) rfl ?_
  refine tm_sub [0, 1, 2, 3] rfl (f_behind1 (d + 2) (σ0 := σ) (r := r) (k := k) hr hR hss (by omega) (fun n17 σ8 F3 R4 f5 f6 => ?_) _ (0) σ Fr.rfl hR (by omega) hsc BH1.z rfl)
  show Tm _ _ 70 b σ8 [(3, .int (iI n17)), (0, .ref b), (1, .int (iI r)), (2, .int (iI k))] [] _
  have hb1 := f6
  have p3 : σ8.2.1 3 (220 * r + k) = σ.2.1 3 (220 * r + k) := congrFun (((show Fr [] [54, 55, 56, 57, 58] [] σ σ8 from (Fr.rfl.trans (Fr.sub F3 (by decide) (by decide) (by decide))))).2.1 3 (by decide)) _
  have p4 : σ8.2.1 4 (220 * r + k) = σ.2.1 4 (220 * r + k) := congrFun (((show Fr [] [54, 55, 56, 57, 58] [] σ σ8 from (Fr.rfl.trans (Fr.sub F3 (by decide) (by decide) (by decide))))).2.1 4 (by decide)) _
  have p5 : σ8.2.1 5 (220 * r + k) = σ.2.1 5 (220 * r + k) := congrFun (((show Fr [] [54, 55, 56, 57, 58] [] σ σ8 from (Fr.rfl.trans (Fr.sub F3 (by decide) (by decide) (by decide))))).2.1 5 (by decide)) _
  have p6 : σ8.2.1 6 (220 * r + k) = σ.2.1 6 (220 * r + k) := congrFun (((show Fr [] [54, 55, 56, 57, 58] [] σ σ8 from (Fr.rfl.trans (Fr.sub F3 (by decide) (by decide) (by decide))))).2.1 6 (by decide)) _
  have p70 : σ8.2.1 7 (4 * (220 * r + k)) = σ.2.1 7 (4 * (220 * r + k)) := congrFun (((show Fr [] [54, 55, 56, 57, 58] [] σ σ8 from (Fr.rfl.trans (Fr.sub F3 (by decide) (by decide) (by decide))))).2.1 7 (by decide)) _
  have p71 : σ8.2.1 7 (4 * (220 * r + k) + 1) = σ.2.1 7 (4 * (220 * r + k) + 1) := congrFun (((show Fr [] [54, 55, 56, 57, 58] [] σ σ8 from (Fr.rfl.trans (Fr.sub F3 (by decide) (by decide) (by decide))))).2.1 7 (by decide)) _
  have p80 : σ8.2.1 8 (4 * (220 * r + k)) = σ.2.1 8 (4 * (220 * r + k)) := congrFun (((show Fr [] [54, 55, 56, 57, 58] [] σ σ8 from (Fr.rfl.trans (Fr.sub F3 (by decide) (by decide) (by decide))))).2.1 8 (by decide)) _
  have p81 : σ8.2.1 8 (4 * (220 * r + k) + 1) = σ.2.1 8 (4 * (220 * r + k) + 1) := congrFun (((show Fr [] [54, 55, 56, 57, 58] [] σ σ8 from (Fr.rfl.trans (Fr.sub F3 (by decide) (by decide) (by decide))))).2.1 8 (by decide)) _
  refine tm_aload_n dX12_behindItem_70 rfl 1 rfl ?_
  refine tm_iload_n dX12_behindItem_71 rfl 2 rfl ?_
  refine tm_iload_n dX12_behindItem_72 rfl 3 rfl ?_
  refine tm_callV (M := m_X12_behindItem) (pc := 73) (ix := 203) (M' := m_X12_at) (As := [.int (iI r), .int (iI k)]) (rest := []) dX12_behindItem_73 ok_X12_at im_X12_at se_X12_at ml12_203 np_X12_at rfl rfl (Nat.le_of_ble_eq_true rfl) (Nat.le_of_ble_eq_true rfl) rfl (c_X12_at (d + 2) (σ := σ8) (x := r) (k := k) ) (fun r9 σ10 hp => ?_)
  obtain ⟨v11, rfl, rfl, f12⟩ := hp
  subst f12
  show Tm _ _ 76 b σ8 [(3, .int (iI n17)), (0, .ref b), (1, .int (iI r)), (2, .int (iI k))] [.int (iI (220 * r + k))] _
  refine tm_istore_n (L' := [(3, .int (iI (220 * r + k))), (0, .ref b), (1, .int (iI r)), (2, .int (iI k))]) dX12_behindItem_76 rfl (by decide) rfl ?_
  refine tm_aload_n dX12_behindItem_77 rfl 1 rfl ?_
  refine tm_get (k := 3) (v := .ref (b + 1 + 1)) lay_12 dX12_behindItem_78 (by decide) fl12_13 rfl ?_
  refine tm_iload_n dX12_behindItem_81 rfl 0 rfl ?_
  refine tm_iald (z := 220 * r + k) (v := σ.2.1 3 (220 * r + k)) dX12_behindItem_82 (show mT[1]? = some (3, 0, 2860) from rfl) (by omega) (by omega) (by decide) (ra_F F3 (by decide) (rfl)) ?_
  have g13 := RG.a hR 3 (220 * r + k)
  refine tm_bipush dX12_behindItem_83 (by decide) ?_
  refine tm_icmp_ne (tgt := 195) dX12_behindItem_85 (by decide) ⟨by omega, by omega⟩ ⟨by decide, by decide⟩ (fun h14 => ?_) (fun h14 => ?_)
  · refine tm_aload_n dX12_behindItem_195 rfl 1 rfl ?_
    refine tm_get (k := 3) (v := .ref (b + 1 + 1)) lay_12 dX12_behindItem_196 (by decide) fl12_13 rfl ?_
    refine tm_iload_n dX12_behindItem_199 rfl 0 rfl ?_
    refine tm_iald (z := 220 * r + k) (v := σ.2.1 3 (220 * r + k)) dX12_behindItem_200 (show mT[1]? = some (3, 0, 2860) from rfl) (by omega) (by omega) (by decide) (ra_F F3 (by decide) (rfl)) ?_
    have g15 := RG.a hR 3 (220 * r + k)
    refine tm_bipush dX12_behindItem_201 (by decide) ?_
    refine tm_icmp_ne (tgt := 244) dX12_behindItem_203 (by decide) ⟨by omega, by omega⟩ ⟨by decide, by decide⟩ (fun h16 => ?_) (fun h16 => ?_)
    · refine tm_iconst dX12_behindItem_244 ?_
      refine tm_istore (L' := [(4, .int (iI 0)), (3, .int (iI (220 * r + k))), (0, .ref b), (1, .int (iI r)), (2, .int (iI k))]) dX12_behindItem_245 (by decide) rfl ?_
      refine tm_sub [0, 1, 2, 3, 4] rfl (f_behind3 (d + 2) (σ0 := σ8) (r := r) (k := k) (by omega) R4 (by omega) (fun n123 σ24 F19 R20 f21 f22 => ?_) _ (0) σ8 Fr.rfl R4 (by omega) (by first | assumption | exact SCA.put (by assumption) (by omega) (by omega)) BHO.z rfl)
      show Tm _ _ 339 b σ24 [(4, .int (iI n123)), (3, .int (iI (220 * r + k))), (0, .ref b), (1, .int (iI r)), (2, .int (iI k))] [] _
      exact tm_vret rfl dX12_behindItem_339 (⟨rfl, ((Fr.rfl.trans (Fr.sub F3 (by decide) (by decide) (by decide))).trans (Fr.sub F19 (by decide) (by decide) (by decide))), R20, f21, by
      first
      | exact BHF.oth hb1 rfl (by omega) (by omega) (by omega) (by omega) f22
      | exact BHF.bind (σ := σ) hb1 rfl (by omega) (by omega) (by omega) (by omega) (whD_eq (by omega) (by omega) (by omega) (by omega)) (fun z => by have z2 : σ8.2.1 3 (220 * r + k) ≤ 5 ∨ σ8.2.1 3 (220 * r + k) = 10 := z; omega) f22
      | exact BHF.leave hb1 rfl (by omega) (by omega) hl2 (by omega) f22
      | (exfalso; omega)⟩)
    · refine tm_iconst dX12_behindItem_206 ?_
      refine tm_istore (L' := [(4, .int (iI 0)), (3, .int (iI (220 * r + k))), (0, .ref b), (1, .int (iI r)), (2, .int (iI k))]) dX12_behindItem_207 (by decide) rfl ?_
      refine tm_sub [0, 1, 2, 3, 4] rfl (f_behind2 (d + 2) (σ0 := σ8) (r := r) (k := k) (by omega) R4 (by omega) (by rw [((show Fr [] [54, 55, 56, 57, 58] [] σ σ8 from (Fr.rfl.trans (Fr.sub F3 (by decide) (by decide) (by decide))))).2.1 4 (by decide)]; omega) (fun n131 σ32 F27 R28 f29 f30 => ?_) _ (0) σ8 Fr.rfl R4 (by omega) (by first | assumption | exact SCA.put (by assumption) (by omega) (by omega)) BHL.z rfl)
      show Tm _ _ 244 b σ32 [(4, .int (iI n131)), (3, .int (iI (220 * r + k))), (0, .ref b), (1, .int (iI r)), (2, .int (iI k))] [] _
      have hl2 := f30
      have w3 : σ32.2.1 3 (220 * r + k) = σ.2.1 3 (220 * r + k) := congrFun (((show Fr [] [54, 55, 56, 57, 58] [] σ σ32 from ((Fr.rfl.trans (Fr.sub F3 (by decide) (by decide) (by decide))).trans (Fr.sub F27 (by decide) (by decide) (by decide))))).2.1 3 (by decide)) _
      have w4 : σ32.2.1 4 (220 * r + k) = σ.2.1 4 (220 * r + k) := congrFun (((show Fr [] [54, 55, 56, 57, 58] [] σ σ32 from ((Fr.rfl.trans (Fr.sub F3 (by decide) (by decide) (by decide))).trans (Fr.sub F27 (by decide) (by decide) (by decide))))).2.1 4 (by decide)) _
      refine tm_iconst dX12_behindItem_244 ?_
      refine tm_istore (L' := [(4, .int (iI 0)), (3, .int (iI (220 * r + k))), (0, .ref b), (1, .int (iI r)), (2, .int (iI k))]) dX12_behindItem_245 (by decide) rfl ?_
      refine tm_sub [0, 1, 2, 3, 4] rfl (f_behind3 (d + 2) (σ0 := σ32) (r := r) (k := k) (by omega) R28 (by omega) (fun n139 σ40 F35 R36 f37 f38 => ?_) _ (0) σ32 Fr.rfl R28 (by omega) (by first | assumption | exact SCA.put (by assumption) (by omega) (by omega)) BHO.z rfl)
      show Tm _ _ 339 b σ40 [(4, .int (iI n139)), (3, .int (iI (220 * r + k))), (0, .ref b), (1, .int (iI r)), (2, .int (iI k))] [] _
      exact tm_vret rfl dX12_behindItem_339 (⟨rfl, (((Fr.rfl.trans (Fr.sub F3 (by decide) (by decide) (by decide))).trans (Fr.sub F27 (by decide) (by decide) (by decide))).trans (Fr.sub F35 (by decide) (by decide) (by decide))), R36, f37, by
      first
      | exact BHF.oth hb1 rfl (by omega) (by omega) (by omega) (by omega) f38
      | exact BHF.bind (σ := σ) hb1 rfl (by omega) (by omega) (by omega) (by omega) (whD_eq (by omega) (by omega) (by omega) (by omega)) (fun z => by have z2 : σ8.2.1 3 (220 * r + k) ≤ 5 ∨ σ8.2.1 3 (220 * r + k) = 10 := z; omega) f38
      | exact BHF.leave hb1 rfl (by omega) (by omega) hl2 (by omega) f38
      | (exfalso; omega)⟩)
  · refine tm_aload_n dX12_behindItem_88 rfl 1 rfl ?_
    refine tm_iload_n dX12_behindItem_89 rfl 0 rfl ?_
    refine tm_callV (M := m_X12_behindItem) (pc := 90) (ix := 199) (M' := m_X12_args) (As := [.int (iI (220 * r + k))]) (rest := []) dX12_behindItem_90 ok_X12_args im_X12_args se_X12_args ml12_199 np_X12_args rfl rfl (Nat.le_of_ble_eq_true rfl) (Nat.le_of_ble_eq_true rfl) rfl (c_X12_args (d) (σ := σ8) (x := 220 * r + k) (by omega) R4 (OKS.of (hok.fr (show Fr [] [54, 55, 56, 57, 58] [] σ σ8 from (Fr.rfl.trans (Fr.sub F3 (by decide) (by decide) (by decide)))) (by decide)) (by omega) (by rw [((show Fr [] [54, 55, 56, 57, 58] [] σ σ8 from (Fr.rfl.trans (Fr.sub F3 (by decide) (by decide) (by decide))))).2.1 9 (by decide)]; omega)) (hpar.fr (show Fr [] [54, 55, 56, 57, 58] [] σ σ8 from (Fr.rfl.trans (Fr.sub F3 (by decide) (by decide) (by decide)))) (by decide))) (fun r41 σ42 hp => ?_)
    obtain ⟨v43, rfl, rfl, f44, f45⟩ := hp
    show Tm _ _ 93 b σ8 [(3, .int (iI (220 * r + k))), (0, .ref b), (1, .int (iI r)), (2, .int (iI k))] [.int (iI v43)] _
    have na := nAr_12 (σ := σ8) (x := 220 * r + k) (by omega)
    refine tm_istore (L' := [(4, .int (iI v43)), (3, .int (iI (220 * r + k))), (0, .ref b), (1, .int (iI r)), (2, .int (iI k))]) dX12_behindItem_93 (by decide) rfl ?_
    refine tm_aload_n dX12_behindItem_95 rfl 2 rfl ?_
    refine tm_bipush dX12_behindItem_96 (by decide) ?_
    refine tm_aload_n dX12_behindItem_98 rfl 2 rfl ?_
    refine tm_get (k := 5) (v := .ref (b + 1 + 3)) lay_12 dX12_behindItem_99 (by decide) fl12_20 rfl ?_
    refine tm_iload_n dX12_behindItem_102 rfl 1 rfl ?_
    refine tm_iald (z := 220 * r + k) (v := σ.2.1 5 (220 * r + k)) dX12_behindItem_103 (show mT[3]? = some (5, 0, 2860) from rfl) (by omega) (by omega) (by decide) (ra_F F3 (by decide) (rfl)) ?_
    have g46 := RG.a hR 5 (220 * r + k)
    refine tm_imul dX12_behindItem_104 ?_
    refine tm_aload_n dX12_behindItem_105 rfl 2 rfl ?_
    refine tm_get (k := 4) (v := .ref (b + 1 + 2)) lay_12 dX12_behindItem_106 (by decide) fl12_17 rfl ?_
    refine tm_iload_n dX12_behindItem_109 rfl 1 rfl ?_
    refine tm_iald (z := 220 * r + k) (v := σ.2.1 4 (220 * r + k)) dX12_behindItem_110 (show mT[2]? = some (4, 0, 2860) from rfl) (by omega) (by omega) (by decide) (ra_F F3 (by decide) (rfl)) ?_
    have g47 := RG.a hR 4 (220 * r + k)
    refine tm_iadd dX12_behindItem_111 ?_
    refine tm_aload_n dX12_behindItem_112 rfl 2 rfl ?_
    refine tm_get (k := 6) (v := .ref (b + 1 + 4)) lay_12 dX12_behindItem_113 (by decide) fl12_23 rfl ?_
    refine tm_iload_n dX12_behindItem_116 rfl 1 rfl ?_
    refine tm_iald (z := 220 * r + k) (v := σ.2.1 6 (220 * r + k)) dX12_behindItem_117 (show mT[4]? = some (6, 0, 2860) from rfl) (by omega) (by omega) (by decide) (ra_F F3 (by decide) (rfl)) ?_
    have g48 := RG.a hR 6 (220 * r + k)
    refine tm_iload dX12_behindItem_118 0 rfl ?_
    refine tm_if_le (tgt := 134) dX12_behindItem_120 (by decide) ⟨by omega, by omega⟩ (fun h49 => ?_) (fun h49 => ?_)
    · refine tm_iconst dX12_behindItem_134 ?_
      refine tm_iload dX12_behindItem_135 0 rfl ?_
      refine tm_if_le (tgt := 151) dX12_behindItem_137 (by decide) ⟨by omega, by omega⟩ (fun h50 => ?_) (fun h50 => ?_)
      · refine tm_iconst dX12_behindItem_151 ?_
        refine tm_iload dX12_behindItem_152 0 rfl ?_
        refine tm_iconst dX12_behindItem_154 ?_
        refine tm_icmp_le (tgt := 171) dX12_behindItem_155 (by decide) ⟨by omega, by omega⟩ ⟨by decide, by decide⟩ (fun h51 => ?_) (fun h51 => ?_)
        · refine tm_iconst dX12_behindItem_171 ?_
          refine tm_iload dX12_behindItem_172 0 rfl ?_
          refine tm_iconst dX12_behindItem_174 ?_
          refine tm_icmp_le (tgt := 191) dX12_behindItem_175 (by decide) ⟨by omega, by omega⟩ ⟨by decide, by decide⟩ (fun h52 => ?_) (fun h52 => ?_)
          · refine tm_iconst dX12_behindItem_191 ?_
            refine tm_callV (M := m_X12_behindItem) (pc := 192) (ix := 416) (M' := m_X12_setNow) (As := [.int (iI ((12 * (σ.2.1 5 (220 * r + k))) + (σ.2.1 4 (220 * r + k)))), .int (iI (σ.2.1 6 (220 * r + k))), .int (iI 0), .int (iI 0), .int (iI 0), .int (iI 0)]) (rest := []) dX12_behindItem_192 ok_X12_setNow im_X12_setNow se_X12_setNow ml12_416 np_X12_setNow rfl rfl (Nat.le_of_ble_eq_true rfl) (Nat.le_of_ble_eq_true rfl) rfl (c_X12_setNow (d + 2) (σ := σ8) (n := (12 * (σ.2.1 5 (220 * r + k))) + (σ.2.1 4 (220 * r + k))) (w := σ.2.1 6 (220 * r + k)) (ka := 0) (a := 0) (kb := 0) (c := 0) (by omega)) (fun r53 σ54 hp => ?_)
            obtain ⟨rfl, f56⟩ := hp
            subst f56
            show Tm _ _ 195 b (fNow ((12 * (σ.2.1 5 (220 * r + k))) + (σ.2.1 4 (220 * r + k))) (σ.2.1 6 (220 * r + k)) (0) (0) (0) (0) σ8) [(4, .int (iI v43)), (3, .int (iI (220 * r + k))), (0, .ref b), (1, .int (iI r)), (2, .int (iI k))] [] _
            refine tm_aload_n dX12_behindItem_195 rfl 2 rfl ?_
            refine tm_get (k := 3) (v := .ref (b + 1 + 1)) lay_12 dX12_behindItem_196 (by decide) fl12_13 rfl ?_
            refine tm_iload_n dX12_behindItem_199 rfl 1 rfl ?_
            refine tm_iald (z := 220 * r + k) (v := σ.2.1 3 (220 * r + k)) dX12_behindItem_200 (show mT[1]? = some (3, 0, 2860) from rfl) (by omega) (by omega) (by decide) (ra_F fNow_fr (by decide) (ra_F F3 (by decide) (rfl))) ?_
            have g57 := RG.a hR 3 (220 * r + k)
            refine tm_bipush dX12_behindItem_201 (by decide) ?_
            refine tm_icmp_ne (tgt := 244) dX12_behindItem_203 (by decide) ⟨by omega, by omega⟩ ⟨by decide, by decide⟩ (fun h58 => ?_) (fun h58 => ?_)
            · refine tm_iconst dX12_behindItem_244 ?_
              refine tm_istore (L' := [(4, .int (iI 0)), (3, .int (iI (220 * r + k))), (0, .ref b), (1, .int (iI r)), (2, .int (iI k))]) dX12_behindItem_245 (by decide) rfl ?_
              refine tm_sub [0, 1, 2, 3, 4] rfl (f_behind3 (d + 2) (σ0 := (fNow ((12 * (σ.2.1 5 (220 * r + k))) + (σ.2.1 4 (220 * r + k))) (σ.2.1 6 (220 * r + k)) (0) (0) (0) (0) σ8)) (r := r) (k := k) (by omega) (R4.now (by omega)) (by omega) (fun n165 σ66 F61 R62 f63 f64 => ?_) _ (0) (fNow ((12 * (σ.2.1 5 (220 * r + k))) + (σ.2.1 4 (220 * r + k))) (σ.2.1 6 (220 * r + k)) (0) (0) (0) (0) σ8) Fr.rfl (R4.now (by omega)) (by omega) (by first | assumption | exact SCA.put (by assumption) (by omega) (by omega)) BHO.z rfl)
              show Tm _ _ 339 b σ66 [(4, .int (iI n165)), (3, .int (iI (220 * r + k))), (0, .ref b), (1, .int (iI r)), (2, .int (iI k))] [] _
              exact tm_vret rfl dX12_behindItem_339 (⟨rfl, (((Fr.rfl.trans (Fr.sub F3 (by decide) (by decide) (by decide))).trans (Fr.sub fNow_fr (by decide) (by decide) (by decide))).trans (Fr.sub F61 (by decide) (by decide) (by decide))), R62, f63, by
      first
      | exact BHF.oth hb1 rfl (by omega) (by omega) (by omega) (by omega) f64
      | exact BHF.bind (σ := σ) hb1 rfl (by omega) (by omega) (by omega) (by omega) (whD_eq (by omega) (by omega) (by omega) (by omega)) (fun z => by have z2 : σ8.2.1 3 (220 * r + k) ≤ 5 ∨ σ8.2.1 3 (220 * r + k) = 10 := z; omega) f64
      | exact BHF.leave hb1 rfl (by omega) (by omega) hl2 (by omega) f64
      | (exfalso; omega)⟩)
            · refine tm_iconst dX12_behindItem_206 ?_
              refine tm_istore (L' := [(4, .int (iI 0)), (3, .int (iI (220 * r + k))), (0, .ref b), (1, .int (iI r)), (2, .int (iI k))]) dX12_behindItem_207 (by decide) rfl ?_
              refine tm_sub [0, 1, 2, 3, 4] rfl (f_behind2 (d + 2) (σ0 := (fNow ((12 * (σ.2.1 5 (220 * r + k))) + (σ.2.1 4 (220 * r + k))) (σ.2.1 6 (220 * r + k)) (0) (0) (0) (0) σ8)) (r := r) (k := k) (by omega) (R4.now (by omega)) (by omega) (by rw [((show Fr [] [54, 55, 56, 57, 58] [] σ (fNow ((12 * (σ.2.1 5 (220 * r + k))) + (σ.2.1 4 (220 * r + k))) (σ.2.1 6 (220 * r + k)) (0) (0) (0) (0) σ8) from ((Fr.rfl.trans (Fr.sub F3 (by decide) (by decide) (by decide))).trans (Fr.sub fNow_fr (by decide) (by decide) (by decide))))).2.1 4 (by decide)]; omega) (fun n173 σ74 F69 R70 f71 f72 => ?_) _ (0) (fNow ((12 * (σ.2.1 5 (220 * r + k))) + (σ.2.1 4 (220 * r + k))) (σ.2.1 6 (220 * r + k)) (0) (0) (0) (0) σ8) Fr.rfl (R4.now (by omega)) (by omega) (by first | assumption | exact SCA.put (by assumption) (by omega) (by omega)) BHL.z rfl)
              show Tm _ _ 244 b σ74 [(4, .int (iI n173)), (3, .int (iI (220 * r + k))), (0, .ref b), (1, .int (iI r)), (2, .int (iI k))] [] _
              have hl2 := f72
              have w3 : σ74.2.1 3 (220 * r + k) = σ.2.1 3 (220 * r + k) := congrFun (((show Fr [] [54, 55, 56, 57, 58] [] σ σ74 from (((Fr.rfl.trans (Fr.sub F3 (by decide) (by decide) (by decide))).trans (Fr.sub fNow_fr (by decide) (by decide) (by decide))).trans (Fr.sub F69 (by decide) (by decide) (by decide))))).2.1 3 (by decide)) _
              have w4 : σ74.2.1 4 (220 * r + k) = σ.2.1 4 (220 * r + k) := congrFun (((show Fr [] [54, 55, 56, 57, 58] [] σ σ74 from (((Fr.rfl.trans (Fr.sub F3 (by decide) (by decide) (by decide))).trans (Fr.sub fNow_fr (by decide) (by decide) (by decide))).trans (Fr.sub F69 (by decide) (by decide) (by decide))))).2.1 4 (by decide)) _
              refine tm_iconst dX12_behindItem_244 ?_
              refine tm_istore (L' := [(4, .int (iI 0)), (3, .int (iI (220 * r + k))), (0, .ref b), (1, .int (iI r)), (2, .int (iI k))]) dX12_behindItem_245 (by decide) rfl ?_
              refine tm_sub [0, 1, 2, 3, 4] rfl (f_behind3 (d + 2) (σ0 := σ74) (r := r) (k := k) (by omega) R70 (by omega) (fun n181 σ82 F77 R78 f79 f80 => ?_) _ (0) σ74 Fr.rfl R70 (by omega) (by first | assumption | exact SCA.put (by assumption) (by omega) (by omega)) BHO.z rfl)
              show Tm _ _ 339 b σ82 [(4, .int (iI n181)), (3, .int (iI (220 * r + k))), (0, .ref b), (1, .int (iI r)), (2, .int (iI k))] [] _
              exact tm_vret rfl dX12_behindItem_339 (⟨rfl, ((((Fr.rfl.trans (Fr.sub F3 (by decide) (by decide) (by decide))).trans (Fr.sub fNow_fr (by decide) (by decide) (by decide))).trans (Fr.sub F69 (by decide) (by decide) (by decide))).trans (Fr.sub F77 (by decide) (by decide) (by decide))), R78, f79, by
      first
      | exact BHF.oth hb1 rfl (by omega) (by omega) (by omega) (by omega) f80
      | exact BHF.bind (σ := σ) hb1 rfl (by omega) (by omega) (by omega) (by omega) (whD_eq (by omega) (by omega) (by omega) (by omega)) (fun z => by have z2 : σ8.2.1 3 (220 * r + k) ≤ 5 ∨ σ8.2.1 3 (220 * r + k) = 10 := z; omega) f80
      | exact BHF.leave hb1 rfl (by omega) (by omega) hl2 (by omega) f80
      | (exfalso; omega)⟩)
          · exact absurd h52 (by omega)
        · refine tm_aload_n dX12_behindItem_158 rfl 2 rfl ?_
          refine tm_get (k := 7) (v := .ref (b + 1 + 5)) lay_12 dX12_behindItem_159 (by decide) fl12_26 rfl ?_
          refine tm_iconst dX12_behindItem_162 ?_
          refine tm_iload_n dX12_behindItem_163 rfl 1 rfl ?_
          refine tm_imul dX12_behindItem_164 ?_
          refine tm_iconst dX12_behindItem_165 ?_
          refine tm_iadd dX12_behindItem_166 ?_
          refine tm_iald (z := (4 * (220 * r + k)) + 1) (v := σ.2.1 7 ((4 * (220 * r + k)) + 1)) dX12_behindItem_167 (show mT[5]? = some (7, 0, 11440) from rfl) (by omega) (by omega) (by decide) (ra_F F3 (by decide) (rfl)) ?_
          have g83 := RG.a hR 7 ((4 * (220 * r + k)) + 1)
          refine tm_goto (tgt := 172) dX12_behindItem_168 (by decide) ?_
          refine tm_iload dX12_behindItem_172 0 rfl ?_
          refine tm_iconst dX12_behindItem_174 ?_
          refine tm_icmp_le (tgt := 191) dX12_behindItem_175 (by decide) ⟨by omega, by omega⟩ ⟨by decide, by decide⟩ (fun h84 => ?_) (fun h84 => ?_)
          · exact absurd h84 (by omega)
          · refine tm_aload_n dX12_behindItem_178 rfl 2 rfl ?_
            refine tm_get (k := 8) (v := .ref (b + 1 + 6)) lay_12 dX12_behindItem_179 (by decide) fl12_29 rfl ?_
            refine tm_iconst dX12_behindItem_182 ?_
            refine tm_iload_n dX12_behindItem_183 rfl 1 rfl ?_
            refine tm_imul dX12_behindItem_184 ?_
            refine tm_iconst dX12_behindItem_185 ?_
            refine tm_iadd dX12_behindItem_186 ?_
            refine tm_iald (z := (4 * (220 * r + k)) + 1) (v := σ.2.1 8 ((4 * (220 * r + k)) + 1)) dX12_behindItem_187 (show mT[6]? = some (8, 0, 11440) from rfl) (by omega) (by omega) (by decide) (ra_F F3 (by decide) (rfl)) ?_
            have g85 := RG.a hR 8 ((4 * (220 * r + k)) + 1)
            refine tm_goto (tgt := 192) dX12_behindItem_188 (by decide) ?_
            refine tm_callV (M := m_X12_behindItem) (pc := 192) (ix := 416) (M' := m_X12_setNow) (As := [.int (iI ((12 * (σ.2.1 5 (220 * r + k))) + (σ.2.1 4 (220 * r + k)))), .int (iI (σ.2.1 6 (220 * r + k))), .int (iI 0), .int (iI 0), .int (iI (σ.2.1 7 ((4 * (220 * r + k)) + 1))), .int (iI (σ.2.1 8 ((4 * (220 * r + k)) + 1)))]) (rest := []) dX12_behindItem_192 ok_X12_setNow im_X12_setNow se_X12_setNow ml12_416 np_X12_setNow rfl rfl (Nat.le_of_ble_eq_true rfl) (Nat.le_of_ble_eq_true rfl) rfl (c_X12_setNow (d + 2) (σ := σ8) (n := (12 * (σ.2.1 5 (220 * r + k))) + (σ.2.1 4 (220 * r + k))) (w := σ.2.1 6 (220 * r + k)) (ka := 0) (a := 0) (kb := σ.2.1 7 ((4 * (220 * r + k)) + 1)) (c := σ.2.1 8 ((4 * (220 * r + k)) + 1)) (by omega)) (fun r86 σ87 hp => ?_)
            obtain ⟨rfl, f89⟩ := hp
            subst f89
            show Tm _ _ 195 b (fNow ((12 * (σ.2.1 5 (220 * r + k))) + (σ.2.1 4 (220 * r + k))) (σ.2.1 6 (220 * r + k)) (0) (0) (σ.2.1 7 ((4 * (220 * r + k)) + 1)) (σ.2.1 8 ((4 * (220 * r + k)) + 1)) σ8) [(4, .int (iI v43)), (3, .int (iI (220 * r + k))), (0, .ref b), (1, .int (iI r)), (2, .int (iI k))] [] _
            refine tm_aload_n dX12_behindItem_195 rfl 2 rfl ?_
            refine tm_get (k := 3) (v := .ref (b + 1 + 1)) lay_12 dX12_behindItem_196 (by decide) fl12_13 rfl ?_
            refine tm_iload_n dX12_behindItem_199 rfl 1 rfl ?_
            refine tm_iald (z := 220 * r + k) (v := σ.2.1 3 (220 * r + k)) dX12_behindItem_200 (show mT[1]? = some (3, 0, 2860) from rfl) (by omega) (by omega) (by decide) (ra_F fNow_fr (by decide) (ra_F F3 (by decide) (rfl))) ?_
            have g90 := RG.a hR 3 (220 * r + k)
            refine tm_bipush dX12_behindItem_201 (by decide) ?_
            refine tm_icmp_ne (tgt := 244) dX12_behindItem_203 (by decide) ⟨by omega, by omega⟩ ⟨by decide, by decide⟩ (fun h91 => ?_) (fun h91 => ?_)
            · refine tm_iconst dX12_behindItem_244 ?_
              refine tm_istore (L' := [(4, .int (iI 0)), (3, .int (iI (220 * r + k))), (0, .ref b), (1, .int (iI r)), (2, .int (iI k))]) dX12_behindItem_245 (by decide) rfl ?_
              refine tm_sub [0, 1, 2, 3, 4] rfl (f_behind3 (d + 2) (σ0 := (fNow ((12 * (σ.2.1 5 (220 * r + k))) + (σ.2.1 4 (220 * r + k))) (σ.2.1 6 (220 * r + k)) (0) (0) (σ.2.1 7 ((4 * (220 * r + k)) + 1)) (σ.2.1 8 ((4 * (220 * r + k)) + 1)) σ8)) (r := r) (k := k) (by omega) (R4.now (by omega)) (by omega) (fun n198 σ99 F94 R95 f96 f97 => ?_) _ (0) (fNow ((12 * (σ.2.1 5 (220 * r + k))) + (σ.2.1 4 (220 * r + k))) (σ.2.1 6 (220 * r + k)) (0) (0) (σ.2.1 7 ((4 * (220 * r + k)) + 1)) (σ.2.1 8 ((4 * (220 * r + k)) + 1)) σ8) Fr.rfl (R4.now (by omega)) (by omega) (by first | assumption | exact SCA.put (by assumption) (by omega) (by omega)) BHO.z rfl)
              show Tm _ _ 339 b σ99 [(4, .int (iI n198)), (3, .int (iI (220 * r + k))), (0, .ref b), (1, .int (iI r)), (2, .int (iI k))] [] _
              exact tm_vret rfl dX12_behindItem_339 (⟨rfl, (((Fr.rfl.trans (Fr.sub F3 (by decide) (by decide) (by decide))).trans (Fr.sub fNow_fr (by decide) (by decide) (by decide))).trans (Fr.sub F94 (by decide) (by decide) (by decide))), R95, f96, by
      first
      | exact BHF.oth hb1 rfl (by omega) (by omega) (by omega) (by omega) f97
      | exact BHF.bind (σ := σ) hb1 rfl (by omega) (by omega) (by omega) (by omega) (whD_eq (by omega) (by omega) (by omega) (by omega)) (fun z => by have z2 : σ8.2.1 3 (220 * r + k) ≤ 5 ∨ σ8.2.1 3 (220 * r + k) = 10 := z; omega) f97
      | exact BHF.leave hb1 rfl (by omega) (by omega) hl2 (by omega) f97
      | (exfalso; omega)⟩)
            · refine tm_iconst dX12_behindItem_206 ?_
              refine tm_istore (L' := [(4, .int (iI 0)), (3, .int (iI (220 * r + k))), (0, .ref b), (1, .int (iI r)), (2, .int (iI k))]) dX12_behindItem_207 (by decide) rfl ?_
              refine tm_sub [0, 1, 2, 3, 4] rfl (f_behind2 (d + 2) (σ0 := (fNow ((12 * (σ.2.1 5 (220 * r + k))) + (σ.2.1 4 (220 * r + k))) (σ.2.1 6 (220 * r + k)) (0) (0) (σ.2.1 7 ((4 * (220 * r + k)) + 1)) (σ.2.1 8 ((4 * (220 * r + k)) + 1)) σ8)) (r := r) (k := k) (by omega) (R4.now (by omega)) (by omega) (by rw [((show Fr [] [54, 55, 56, 57, 58] [] σ (fNow ((12 * (σ.2.1 5 (220 * r + k))) + (σ.2.1 4 (220 * r + k))) (σ.2.1 6 (220 * r + k)) (0) (0) (σ.2.1 7 ((4 * (220 * r + k)) + 1)) (σ.2.1 8 ((4 * (220 * r + k)) + 1)) σ8) from ((Fr.rfl.trans (Fr.sub F3 (by decide) (by decide) (by decide))).trans (Fr.sub fNow_fr (by decide) (by decide) (by decide))))).2.1 4 (by decide)]; omega) (fun n1106 σ107 F102 R103 f104 f105 => ?_) _ (0) (fNow ((12 * (σ.2.1 5 (220 * r + k))) + (σ.2.1 4 (220 * r + k))) (σ.2.1 6 (220 * r + k)) (0) (0) (σ.2.1 7 ((4 * (220 * r + k)) + 1)) (σ.2.1 8 ((4 * (220 * r + k)) + 1)) σ8) Fr.rfl (R4.now (by omega)) (by omega) (by first | assumption | exact SCA.put (by assumption) (by omega) (by omega)) BHL.z rfl)
              show Tm _ _ 244 b σ107 [(4, .int (iI n1106)), (3, .int (iI (220 * r + k))), (0, .ref b), (1, .int (iI r)), (2, .int (iI k))] [] _
              have hl2 := f105
              have w3 : σ107.2.1 3 (220 * r + k) = σ.2.1 3 (220 * r + k) := congrFun (((show Fr [] [54, 55, 56, 57, 58] [] σ σ107 from (((Fr.rfl.trans (Fr.sub F3 (by decide) (by decide) (by decide))).trans (Fr.sub fNow_fr (by decide) (by decide) (by decide))).trans (Fr.sub F102 (by decide) (by decide) (by decide))))).2.1 3 (by decide)) _
              have w4 : σ107.2.1 4 (220 * r + k) = σ.2.1 4 (220 * r + k) := congrFun (((show Fr [] [54, 55, 56, 57, 58] [] σ σ107 from (((Fr.rfl.trans (Fr.sub F3 (by decide) (by decide) (by decide))).trans (Fr.sub fNow_fr (by decide) (by decide) (by decide))).trans (Fr.sub F102 (by decide) (by decide) (by decide))))).2.1 4 (by decide)) _
              refine tm_iconst dX12_behindItem_244 ?_
              refine tm_istore (L' := [(4, .int (iI 0)), (3, .int (iI (220 * r + k))), (0, .ref b), (1, .int (iI r)), (2, .int (iI k))]) dX12_behindItem_245 (by decide) rfl ?_
              refine tm_sub [0, 1, 2, 3, 4] rfl (f_behind3 (d + 2) (σ0 := σ107) (r := r) (k := k) (by omega) R103 (by omega) (fun n1114 σ115 F110 R111 f112 f113 => ?_) _ (0) σ107 Fr.rfl R103 (by omega) (by first | assumption | exact SCA.put (by assumption) (by omega) (by omega)) BHO.z rfl)
              show Tm _ _ 339 b σ115 [(4, .int (iI n1114)), (3, .int (iI (220 * r + k))), (0, .ref b), (1, .int (iI r)), (2, .int (iI k))] [] _
              exact tm_vret rfl dX12_behindItem_339 (⟨rfl, ((((Fr.rfl.trans (Fr.sub F3 (by decide) (by decide) (by decide))).trans (Fr.sub fNow_fr (by decide) (by decide) (by decide))).trans (Fr.sub F102 (by decide) (by decide) (by decide))).trans (Fr.sub F110 (by decide) (by decide) (by decide))), R111, f112, by
      first
      | exact BHF.oth hb1 rfl (by omega) (by omega) (by omega) (by omega) f113
      | exact BHF.bind (σ := σ) hb1 rfl (by omega) (by omega) (by omega) (by omega) (whD_eq (by omega) (by omega) (by omega) (by omega)) (fun z => by have z2 : σ8.2.1 3 (220 * r + k) ≤ 5 ∨ σ8.2.1 3 (220 * r + k) = 10 := z; omega) f113
      | exact BHF.leave hb1 rfl (by omega) (by omega) hl2 (by omega) f113
      | (exfalso; omega)⟩)
      · exact absurd h50 (by omega)
    · refine tm_aload_n dX12_behindItem_123 rfl 2 rfl ?_
      refine tm_get (k := 7) (v := .ref (b + 1 + 5)) lay_12 dX12_behindItem_124 (by decide) fl12_26 rfl ?_
      refine tm_iconst dX12_behindItem_127 ?_
      refine tm_iload_n dX12_behindItem_128 rfl 1 rfl ?_
      refine tm_imul dX12_behindItem_129 ?_
      refine tm_iald (z := 4 * (220 * r + k)) (v := σ.2.1 7 (4 * (220 * r + k))) dX12_behindItem_130 (show mT[5]? = some (7, 0, 11440) from rfl) (by omega) (by omega) (by decide) (ra_F F3 (by decide) (rfl)) ?_
      have g116 := RG.a hR 7 (4 * (220 * r + k))
      refine tm_goto (tgt := 135) dX12_behindItem_131 (by decide) ?_
      refine tm_iload dX12_behindItem_135 0 rfl ?_
      refine tm_if_le (tgt := 151) dX12_behindItem_137 (by decide) ⟨by omega, by omega⟩ (fun h117 => ?_) (fun h117 => ?_)
      · exact absurd h117 (by omega)
      · refine tm_aload_n dX12_behindItem_140 rfl 2 rfl ?_
        refine tm_get (k := 8) (v := .ref (b + 1 + 6)) lay_12 dX12_behindItem_141 (by decide) fl12_29 rfl ?_
        refine tm_iconst dX12_behindItem_144 ?_
        refine tm_iload_n dX12_behindItem_145 rfl 1 rfl ?_
        refine tm_imul dX12_behindItem_146 ?_
        refine tm_iald (z := 4 * (220 * r + k)) (v := σ.2.1 8 (4 * (220 * r + k))) dX12_behindItem_147 (show mT[6]? = some (8, 0, 11440) from rfl) (by omega) (by omega) (by decide) (ra_F F3 (by decide) (rfl)) ?_
        have g118 := RG.a hR 8 (4 * (220 * r + k))
        refine tm_goto (tgt := 152) dX12_behindItem_148 (by decide) ?_
        refine tm_iload dX12_behindItem_152 0 rfl ?_
        refine tm_iconst dX12_behindItem_154 ?_
        refine tm_icmp_le (tgt := 171) dX12_behindItem_155 (by decide) ⟨by omega, by omega⟩ ⟨by decide, by decide⟩ (fun h119 => ?_) (fun h119 => ?_)
        · refine tm_iconst dX12_behindItem_171 ?_
          refine tm_iload dX12_behindItem_172 0 rfl ?_
          refine tm_iconst dX12_behindItem_174 ?_
          refine tm_icmp_le (tgt := 191) dX12_behindItem_175 (by decide) ⟨by omega, by omega⟩ ⟨by decide, by decide⟩ (fun h120 => ?_) (fun h120 => ?_)
          · refine tm_iconst dX12_behindItem_191 ?_
            refine tm_callV (M := m_X12_behindItem) (pc := 192) (ix := 416) (M' := m_X12_setNow) (As := [.int (iI ((12 * (σ.2.1 5 (220 * r + k))) + (σ.2.1 4 (220 * r + k)))), .int (iI (σ.2.1 6 (220 * r + k))), .int (iI (σ.2.1 7 (4 * (220 * r + k)))), .int (iI (σ.2.1 8 (4 * (220 * r + k)))), .int (iI 0), .int (iI 0)]) (rest := []) dX12_behindItem_192 ok_X12_setNow im_X12_setNow se_X12_setNow ml12_416 np_X12_setNow rfl rfl (Nat.le_of_ble_eq_true rfl) (Nat.le_of_ble_eq_true rfl) rfl (c_X12_setNow (d + 2) (σ := σ8) (n := (12 * (σ.2.1 5 (220 * r + k))) + (σ.2.1 4 (220 * r + k))) (w := σ.2.1 6 (220 * r + k)) (ka := σ.2.1 7 (4 * (220 * r + k))) (a := σ.2.1 8 (4 * (220 * r + k))) (kb := 0) (c := 0) (by omega)) (fun r121 σ122 hp => ?_)
            obtain ⟨rfl, f124⟩ := hp
            subst f124
            show Tm _ _ 195 b (fNow ((12 * (σ.2.1 5 (220 * r + k))) + (σ.2.1 4 (220 * r + k))) (σ.2.1 6 (220 * r + k)) (σ.2.1 7 (4 * (220 * r + k))) (σ.2.1 8 (4 * (220 * r + k))) (0) (0) σ8) [(4, .int (iI v43)), (3, .int (iI (220 * r + k))), (0, .ref b), (1, .int (iI r)), (2, .int (iI k))] [] _
            refine tm_aload_n dX12_behindItem_195 rfl 2 rfl ?_
            refine tm_get (k := 3) (v := .ref (b + 1 + 1)) lay_12 dX12_behindItem_196 (by decide) fl12_13 rfl ?_
            refine tm_iload_n dX12_behindItem_199 rfl 1 rfl ?_
            refine tm_iald (z := 220 * r + k) (v := σ.2.1 3 (220 * r + k)) dX12_behindItem_200 (show mT[1]? = some (3, 0, 2860) from rfl) (by omega) (by omega) (by decide) (ra_F fNow_fr (by decide) (ra_F F3 (by decide) (rfl))) ?_
            have g125 := RG.a hR 3 (220 * r + k)
            refine tm_bipush dX12_behindItem_201 (by decide) ?_
            refine tm_icmp_ne (tgt := 244) dX12_behindItem_203 (by decide) ⟨by omega, by omega⟩ ⟨by decide, by decide⟩ (fun h126 => ?_) (fun h126 => ?_)
            · refine tm_iconst dX12_behindItem_244 ?_
              refine tm_istore (L' := [(4, .int (iI 0)), (3, .int (iI (220 * r + k))), (0, .ref b), (1, .int (iI r)), (2, .int (iI k))]) dX12_behindItem_245 (by decide) rfl ?_
              refine tm_sub [0, 1, 2, 3, 4] rfl (f_behind3 (d + 2) (σ0 := (fNow ((12 * (σ.2.1 5 (220 * r + k))) + (σ.2.1 4 (220 * r + k))) (σ.2.1 6 (220 * r + k)) (σ.2.1 7 (4 * (220 * r + k))) (σ.2.1 8 (4 * (220 * r + k))) (0) (0) σ8)) (r := r) (k := k) (by omega) (R4.now (by omega)) (by omega) (fun n1133 σ134 F129 R130 f131 f132 => ?_) _ (0) (fNow ((12 * (σ.2.1 5 (220 * r + k))) + (σ.2.1 4 (220 * r + k))) (σ.2.1 6 (220 * r + k)) (σ.2.1 7 (4 * (220 * r + k))) (σ.2.1 8 (4 * (220 * r + k))) (0) (0) σ8) Fr.rfl (R4.now (by omega)) (by omega) (by first | assumption | exact SCA.put (by assumption) (by omega) (by omega)) BHO.z rfl)
              show Tm _ _ 339 b σ134 [(4, .int (iI n1133)), (3, .int (iI (220 * r + k))), (0, .ref b), (1, .int (iI r)), (2, .int (iI k))] [] _
              exact tm_vret rfl dX12_behindItem_339 (⟨rfl, (((Fr.rfl.trans (Fr.sub F3 (by decide) (by decide) (by decide))).trans (Fr.sub fNow_fr (by decide) (by decide) (by decide))).trans (Fr.sub F129 (by decide) (by decide) (by decide))), R130, f131, by
      first
      | exact BHF.oth hb1 rfl (by omega) (by omega) (by omega) (by omega) f132
      | exact BHF.bind (σ := σ) hb1 rfl (by omega) (by omega) (by omega) (by omega) (whD_eq (by omega) (by omega) (by omega) (by omega)) (fun z => by have z2 : σ8.2.1 3 (220 * r + k) ≤ 5 ∨ σ8.2.1 3 (220 * r + k) = 10 := z; omega) f132
      | exact BHF.leave hb1 rfl (by omega) (by omega) hl2 (by omega) f132
      | (exfalso; omega)⟩)
            · refine tm_iconst dX12_behindItem_206 ?_
              refine tm_istore (L' := [(4, .int (iI 0)), (3, .int (iI (220 * r + k))), (0, .ref b), (1, .int (iI r)), (2, .int (iI k))]) dX12_behindItem_207 (by decide) rfl ?_
              refine tm_sub [0, 1, 2, 3, 4] rfl (f_behind2 (d + 2) (σ0 := (fNow ((12 * (σ.2.1 5 (220 * r + k))) + (σ.2.1 4 (220 * r + k))) (σ.2.1 6 (220 * r + k)) (σ.2.1 7 (4 * (220 * r + k))) (σ.2.1 8 (4 * (220 * r + k))) (0) (0) σ8)) (r := r) (k := k) (by omega) (R4.now (by omega)) (by omega) (by rw [((show Fr [] [54, 55, 56, 57, 58] [] σ (fNow ((12 * (σ.2.1 5 (220 * r + k))) + (σ.2.1 4 (220 * r + k))) (σ.2.1 6 (220 * r + k)) (σ.2.1 7 (4 * (220 * r + k))) (σ.2.1 8 (4 * (220 * r + k))) (0) (0) σ8) from ((Fr.rfl.trans (Fr.sub F3 (by decide) (by decide) (by decide))).trans (Fr.sub fNow_fr (by decide) (by decide) (by decide))))).2.1 4 (by decide)]; omega) (fun n1141 σ142 F137 R138 f139 f140 => ?_) _ (0) (fNow ((12 * (σ.2.1 5 (220 * r + k))) + (σ.2.1 4 (220 * r + k))) (σ.2.1 6 (220 * r + k)) (σ.2.1 7 (4 * (220 * r + k))) (σ.2.1 8 (4 * (220 * r + k))) (0) (0) σ8) Fr.rfl (R4.now (by omega)) (by omega) (by first | assumption | exact SCA.put (by assumption) (by omega) (by omega)) BHL.z rfl)
              show Tm _ _ 244 b σ142 [(4, .int (iI n1141)), (3, .int (iI (220 * r + k))), (0, .ref b), (1, .int (iI r)), (2, .int (iI k))] [] _
              have hl2 := f140
              have w3 : σ142.2.1 3 (220 * r + k) = σ.2.1 3 (220 * r + k) := congrFun (((show Fr [] [54, 55, 56, 57, 58] [] σ σ142 from (((Fr.rfl.trans (Fr.sub F3 (by decide) (by decide) (by decide))).trans (Fr.sub fNow_fr (by decide) (by decide) (by decide))).trans (Fr.sub F137 (by decide) (by decide) (by decide))))).2.1 3 (by decide)) _
              have w4 : σ142.2.1 4 (220 * r + k) = σ.2.1 4 (220 * r + k) := congrFun (((show Fr [] [54, 55, 56, 57, 58] [] σ σ142 from (((Fr.rfl.trans (Fr.sub F3 (by decide) (by decide) (by decide))).trans (Fr.sub fNow_fr (by decide) (by decide) (by decide))).trans (Fr.sub F137 (by decide) (by decide) (by decide))))).2.1 4 (by decide)) _
              refine tm_iconst dX12_behindItem_244 ?_
              refine tm_istore (L' := [(4, .int (iI 0)), (3, .int (iI (220 * r + k))), (0, .ref b), (1, .int (iI r)), (2, .int (iI k))]) dX12_behindItem_245 (by decide) rfl ?_
              refine tm_sub [0, 1, 2, 3, 4] rfl (f_behind3 (d + 2) (σ0 := σ142) (r := r) (k := k) (by omega) R138 (by omega) (fun n1149 σ150 F145 R146 f147 f148 => ?_) _ (0) σ142 Fr.rfl R138 (by omega) (by first | assumption | exact SCA.put (by assumption) (by omega) (by omega)) BHO.z rfl)
              show Tm _ _ 339 b σ150 [(4, .int (iI n1149)), (3, .int (iI (220 * r + k))), (0, .ref b), (1, .int (iI r)), (2, .int (iI k))] [] _
              exact tm_vret rfl dX12_behindItem_339 (⟨rfl, ((((Fr.rfl.trans (Fr.sub F3 (by decide) (by decide) (by decide))).trans (Fr.sub fNow_fr (by decide) (by decide) (by decide))).trans (Fr.sub F137 (by decide) (by decide) (by decide))).trans (Fr.sub F145 (by decide) (by decide) (by decide))), R146, f147, by
      first
      | exact BHF.oth hb1 rfl (by omega) (by omega) (by omega) (by omega) f148
      | exact BHF.bind (σ := σ) hb1 rfl (by omega) (by omega) (by omega) (by omega) (whD_eq (by omega) (by omega) (by omega) (by omega)) (fun z => by have z2 : σ8.2.1 3 (220 * r + k) ≤ 5 ∨ σ8.2.1 3 (220 * r + k) = 10 := z; omega) f148
      | exact BHF.leave hb1 rfl (by omega) (by omega) hl2 (by omega) f148
      | (exfalso; omega)⟩)
          · exact absurd h120 (by omega)
        · refine tm_aload_n dX12_behindItem_158 rfl 2 rfl ?_
          refine tm_get (k := 7) (v := .ref (b + 1 + 5)) lay_12 dX12_behindItem_159 (by decide) fl12_26 rfl ?_
          refine tm_iconst dX12_behindItem_162 ?_
          refine tm_iload_n dX12_behindItem_163 rfl 1 rfl ?_
          refine tm_imul dX12_behindItem_164 ?_
          refine tm_iconst dX12_behindItem_165 ?_
          refine tm_iadd dX12_behindItem_166 ?_
          refine tm_iald (z := (4 * (220 * r + k)) + 1) (v := σ.2.1 7 ((4 * (220 * r + k)) + 1)) dX12_behindItem_167 (show mT[5]? = some (7, 0, 11440) from rfl) (by omega) (by omega) (by decide) (ra_F F3 (by decide) (rfl)) ?_
          have g151 := RG.a hR 7 ((4 * (220 * r + k)) + 1)
          refine tm_goto (tgt := 172) dX12_behindItem_168 (by decide) ?_
          refine tm_iload dX12_behindItem_172 0 rfl ?_
          refine tm_iconst dX12_behindItem_174 ?_
          refine tm_icmp_le (tgt := 191) dX12_behindItem_175 (by decide) ⟨by omega, by omega⟩ ⟨by decide, by decide⟩ (fun h152 => ?_) (fun h152 => ?_)
          · exact absurd h152 (by omega)
          · refine tm_aload_n dX12_behindItem_178 rfl 2 rfl ?_
            refine tm_get (k := 8) (v := .ref (b + 1 + 6)) lay_12 dX12_behindItem_179 (by decide) fl12_29 rfl ?_
            refine tm_iconst dX12_behindItem_182 ?_
            refine tm_iload_n dX12_behindItem_183 rfl 1 rfl ?_
            refine tm_imul dX12_behindItem_184 ?_
            refine tm_iconst dX12_behindItem_185 ?_
            refine tm_iadd dX12_behindItem_186 ?_
            refine tm_iald (z := (4 * (220 * r + k)) + 1) (v := σ.2.1 8 ((4 * (220 * r + k)) + 1)) dX12_behindItem_187 (show mT[6]? = some (8, 0, 11440) from rfl) (by omega) (by omega) (by decide) (ra_F F3 (by decide) (rfl)) ?_
            have g153 := RG.a hR 8 ((4 * (220 * r + k)) + 1)
            refine tm_goto (tgt := 192) dX12_behindItem_188 (by decide) ?_
            refine tm_callV (M := m_X12_behindItem) (pc := 192) (ix := 416) (M' := m_X12_setNow) (As := [.int (iI ((12 * (σ.2.1 5 (220 * r + k))) + (σ.2.1 4 (220 * r + k)))), .int (iI (σ.2.1 6 (220 * r + k))), .int (iI (σ.2.1 7 (4 * (220 * r + k)))), .int (iI (σ.2.1 8 (4 * (220 * r + k)))), .int (iI (σ.2.1 7 ((4 * (220 * r + k)) + 1))), .int (iI (σ.2.1 8 ((4 * (220 * r + k)) + 1)))]) (rest := []) dX12_behindItem_192 ok_X12_setNow im_X12_setNow se_X12_setNow ml12_416 np_X12_setNow rfl rfl (Nat.le_of_ble_eq_true rfl) (Nat.le_of_ble_eq_true rfl) rfl (c_X12_setNow (d + 2) (σ := σ8) (n := (12 * (σ.2.1 5 (220 * r + k))) + (σ.2.1 4 (220 * r + k))) (w := σ.2.1 6 (220 * r + k)) (ka := σ.2.1 7 (4 * (220 * r + k))) (a := σ.2.1 8 (4 * (220 * r + k))) (kb := σ.2.1 7 ((4 * (220 * r + k)) + 1)) (c := σ.2.1 8 ((4 * (220 * r + k)) + 1)) (by omega)) (fun r154 σ155 hp => ?_)
            obtain ⟨rfl, f157⟩ := hp
            subst f157
            show Tm _ _ 195 b (fNow ((12 * (σ.2.1 5 (220 * r + k))) + (σ.2.1 4 (220 * r + k))) (σ.2.1 6 (220 * r + k)) (σ.2.1 7 (4 * (220 * r + k))) (σ.2.1 8 (4 * (220 * r + k))) (σ.2.1 7 ((4 * (220 * r + k)) + 1)) (σ.2.1 8 ((4 * (220 * r + k)) + 1)) σ8) [(4, .int (iI v43)), (3, .int (iI (220 * r + k))), (0, .ref b), (1, .int (iI r)), (2, .int (iI k))] [] _
            refine tm_aload_n dX12_behindItem_195 rfl 2 rfl ?_
            refine tm_get (k := 3) (v := .ref (b + 1 + 1)) lay_12 dX12_behindItem_196 (by decide) fl12_13 rfl ?_
            refine tm_iload_n dX12_behindItem_199 rfl 1 rfl ?_
            refine tm_iald (z := 220 * r + k) (v := σ.2.1 3 (220 * r + k)) dX12_behindItem_200 (show mT[1]? = some (3, 0, 2860) from rfl) (by omega) (by omega) (by decide) (ra_F fNow_fr (by decide) (ra_F F3 (by decide) (rfl))) ?_
            have g158 := RG.a hR 3 (220 * r + k)
            refine tm_bipush dX12_behindItem_201 (by decide) ?_
            refine tm_icmp_ne (tgt := 244) dX12_behindItem_203 (by decide) ⟨by omega, by omega⟩ ⟨by decide, by decide⟩ (fun h159 => ?_) (fun h159 => ?_)
            · refine tm_iconst dX12_behindItem_244 ?_
              refine tm_istore (L' := [(4, .int (iI 0)), (3, .int (iI (220 * r + k))), (0, .ref b), (1, .int (iI r)), (2, .int (iI k))]) dX12_behindItem_245 (by decide) rfl ?_
              refine tm_sub [0, 1, 2, 3, 4] rfl (f_behind3 (d + 2) (σ0 := (fNow ((12 * (σ.2.1 5 (220 * r + k))) + (σ.2.1 4 (220 * r + k))) (σ.2.1 6 (220 * r + k)) (σ.2.1 7 (4 * (220 * r + k))) (σ.2.1 8 (4 * (220 * r + k))) (σ.2.1 7 ((4 * (220 * r + k)) + 1)) (σ.2.1 8 ((4 * (220 * r + k)) + 1)) σ8)) (r := r) (k := k) (by omega) (R4.now (by omega)) (by omega) (fun n1166 σ167 F162 R163 f164 f165 => ?_) _ (0) (fNow ((12 * (σ.2.1 5 (220 * r + k))) + (σ.2.1 4 (220 * r + k))) (σ.2.1 6 (220 * r + k)) (σ.2.1 7 (4 * (220 * r + k))) (σ.2.1 8 (4 * (220 * r + k))) (σ.2.1 7 ((4 * (220 * r + k)) + 1)) (σ.2.1 8 ((4 * (220 * r + k)) + 1)) σ8) Fr.rfl (R4.now (by omega)) (by omega) (by first | assumption | exact SCA.put (by assumption) (by omega) (by omega)) BHO.z rfl)
              show Tm _ _ 339 b σ167 [(4, .int (iI n1166)), (3, .int (iI (220 * r + k))), (0, .ref b), (1, .int (iI r)), (2, .int (iI k))] [] _
              exact tm_vret rfl dX12_behindItem_339 (⟨rfl, (((Fr.rfl.trans (Fr.sub F3 (by decide) (by decide) (by decide))).trans (Fr.sub fNow_fr (by decide) (by decide) (by decide))).trans (Fr.sub F162 (by decide) (by decide) (by decide))), R163, f164, by
      first
      | exact BHF.oth hb1 rfl (by omega) (by omega) (by omega) (by omega) f165
      | exact BHF.bind (σ := σ) hb1 rfl (by omega) (by omega) (by omega) (by omega) (whD_eq (by omega) (by omega) (by omega) (by omega)) (fun z => by have z2 : σ8.2.1 3 (220 * r + k) ≤ 5 ∨ σ8.2.1 3 (220 * r + k) = 10 := z; omega) f165
      | exact BHF.leave hb1 rfl (by omega) (by omega) hl2 (by omega) f165
      | (exfalso; omega)⟩)
            · refine tm_iconst dX12_behindItem_206 ?_
              refine tm_istore (L' := [(4, .int (iI 0)), (3, .int (iI (220 * r + k))), (0, .ref b), (1, .int (iI r)), (2, .int (iI k))]) dX12_behindItem_207 (by decide) rfl ?_
              refine tm_sub [0, 1, 2, 3, 4] rfl (f_behind2 (d + 2) (σ0 := (fNow ((12 * (σ.2.1 5 (220 * r + k))) + (σ.2.1 4 (220 * r + k))) (σ.2.1 6 (220 * r + k)) (σ.2.1 7 (4 * (220 * r + k))) (σ.2.1 8 (4 * (220 * r + k))) (σ.2.1 7 ((4 * (220 * r + k)) + 1)) (σ.2.1 8 ((4 * (220 * r + k)) + 1)) σ8)) (r := r) (k := k) (by omega) (R4.now (by omega)) (by omega) (by rw [((show Fr [] [54, 55, 56, 57, 58] [] σ (fNow ((12 * (σ.2.1 5 (220 * r + k))) + (σ.2.1 4 (220 * r + k))) (σ.2.1 6 (220 * r + k)) (σ.2.1 7 (4 * (220 * r + k))) (σ.2.1 8 (4 * (220 * r + k))) (σ.2.1 7 ((4 * (220 * r + k)) + 1)) (σ.2.1 8 ((4 * (220 * r + k)) + 1)) σ8) from ((Fr.rfl.trans (Fr.sub F3 (by decide) (by decide) (by decide))).trans (Fr.sub fNow_fr (by decide) (by decide) (by decide))))).2.1 4 (by decide)]; omega) (fun n1174 σ175 F170 R171 f172 f173 => ?_) _ (0) (fNow ((12 * (σ.2.1 5 (220 * r + k))) + (σ.2.1 4 (220 * r + k))) (σ.2.1 6 (220 * r + k)) (σ.2.1 7 (4 * (220 * r + k))) (σ.2.1 8 (4 * (220 * r + k))) (σ.2.1 7 ((4 * (220 * r + k)) + 1)) (σ.2.1 8 ((4 * (220 * r + k)) + 1)) σ8) Fr.rfl (R4.now (by omega)) (by omega) (by first | assumption | exact SCA.put (by assumption) (by omega) (by omega)) BHL.z rfl)
              show Tm _ _ 244 b σ175 [(4, .int (iI n1174)), (3, .int (iI (220 * r + k))), (0, .ref b), (1, .int (iI r)), (2, .int (iI k))] [] _
              have hl2 := f173
              have w3 : σ175.2.1 3 (220 * r + k) = σ.2.1 3 (220 * r + k) := congrFun (((show Fr [] [54, 55, 56, 57, 58] [] σ σ175 from (((Fr.rfl.trans (Fr.sub F3 (by decide) (by decide) (by decide))).trans (Fr.sub fNow_fr (by decide) (by decide) (by decide))).trans (Fr.sub F170 (by decide) (by decide) (by decide))))).2.1 3 (by decide)) _
              have w4 : σ175.2.1 4 (220 * r + k) = σ.2.1 4 (220 * r + k) := congrFun (((show Fr [] [54, 55, 56, 57, 58] [] σ σ175 from (((Fr.rfl.trans (Fr.sub F3 (by decide) (by decide) (by decide))).trans (Fr.sub fNow_fr (by decide) (by decide) (by decide))).trans (Fr.sub F170 (by decide) (by decide) (by decide))))).2.1 4 (by decide)) _
              refine tm_iconst dX12_behindItem_244 ?_
              refine tm_istore (L' := [(4, .int (iI 0)), (3, .int (iI (220 * r + k))), (0, .ref b), (1, .int (iI r)), (2, .int (iI k))]) dX12_behindItem_245 (by decide) rfl ?_
              refine tm_sub [0, 1, 2, 3, 4] rfl (f_behind3 (d + 2) (σ0 := σ175) (r := r) (k := k) (by omega) R171 (by omega) (fun n1182 σ183 F178 R179 f180 f181 => ?_) _ (0) σ175 Fr.rfl R171 (by omega) (by first | assumption | exact SCA.put (by assumption) (by omega) (by omega)) BHO.z rfl)
              show Tm _ _ 339 b σ183 [(4, .int (iI n1182)), (3, .int (iI (220 * r + k))), (0, .ref b), (1, .int (iI r)), (2, .int (iI k))] [] _
              exact tm_vret rfl dX12_behindItem_339 (⟨rfl, ((((Fr.rfl.trans (Fr.sub F3 (by decide) (by decide) (by decide))).trans (Fr.sub fNow_fr (by decide) (by decide) (by decide))).trans (Fr.sub F170 (by decide) (by decide) (by decide))).trans (Fr.sub F178 (by decide) (by decide) (by decide))), R179, f180, by
      first
      | exact BHF.oth hb1 rfl (by omega) (by omega) (by omega) (by omega) f181
      | exact BHF.bind (σ := σ) hb1 rfl (by omega) (by omega) (by omega) (by omega) (whD_eq (by omega) (by omega) (by omega) (by omega)) (fun z => by have z2 : σ8.2.1 3 (220 * r + k) ≤ 5 ∨ σ8.2.1 3 (220 * r + k) = 10 := z; omega) f181
      | exact BHF.leave hb1 rfl (by omega) (by omega) hl2 (by omega) f181
      | (exfalso; omega)⟩)
end
