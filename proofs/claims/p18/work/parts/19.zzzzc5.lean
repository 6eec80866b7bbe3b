section
set_option maxHeartbeats 2000000 in
set_option maxRecDepth 20000 in
theorem f_states2 (d : Nat) {b : Nat} {σ0 : MS} {r : Int} {k : Int} {post : Option Value → MS → Prop} (hr : 0 ≤ r ∧ r < 6) (hk : 0 ≤ k ∧ k ≤ 220) (hx_112 : ∀ (n1 : Int) (σ : MS) , (Fr [] [49, 50, 51, 52, 53] [] σ0 σ) → (RG σ) → (SSA σ) → (∀ n, 0 ≤ n → n < 144 → σ.2.1 49 (31824 * r + 144 * k + n) = 11) → (∀ y, y < 31824 * r + 144 * k → σ.2.1 49 y = σ0.2.1 49 y) → (UN1 σ r k 144) → (ELS σ0 σ r k) → (G14s σ) → Tm (d + 1) m_X12_findStates 112 b σ [(3, .int (iI n1)), (2, .int (iI k)), (0, .ref b), (1, .int (iI r))] [] post) : ∀ (n : Nat) (n1 : Int) (σ : MS) , (Fr [] [49, 50, 51, 52, 53] [] σ0 σ) → (RG σ) → (0 ≤ n1 ∧ n1 ≤ 144) → (SSA σ) → (∀ n, 0 ≤ n → n < n1 → σ.2.1 49 (31824 * r + 144 * k + n) = 11) → (∀ y, y < 31824 * r + 144 * k → σ.2.1 49 y = σ0.2.1 49 y) → (UN1 σ r k n1) → (ELS σ0 σ r k) → (G14s σ) → (144 - n1).toNat = n → Tm (d + 1) m_X12_findStates 43 b σ [(3, .int (iI n1)), (2, .int (iI k)), (0, .ref b), (1, .int (iI r))] [] post := by
  intro n
  induction n using Nat.strongRecOn with
  | _ n ih =>
    intro n1 σ hF hR h0 hss hun hre hu1 hel hg4 hm
    refine tm_iload_n dX12_findStates_43 rfl 0 rfl ?_
    refine tm_sipush dX12_findStates_44 (by decide) ?_
    refine tm_icmp_ge (tgt := 112) dX12_findStates_47 (by decide) ⟨by omega, by omega⟩ ⟨by decide, by decide⟩ (fun h1 => ?_) (fun h1 => ?_)
    · exact tm_sub [0, 1, 2, 3] rfl (hx_112 (n1) σ (Fr.rfl.trans (Fr.sub hF (by decide) (by decide) (by decide))) hR hss (fun n a c => hun n a (by omega)) hre (by rw [show (144 : Int) = n1 by omega]; exact hu1) hel hg4)
    · refine tm_sipush dX12_findStates_50 (by decide) ?_
      refine tm_iload_n dX12_findStates_53 rfl 3 rfl ?_
      refine tm_imul dX12_findStates_54 ?_
      refine tm_sipush dX12_findStates_55 (by decide) ?_
      refine tm_iload_n dX12_findStates_58 rfl 1 rfl ?_
      refine tm_imul dX12_findStates_59 ?_
      refine tm_iadd dX12_findStates_60 ?_
      refine tm_iload_n dX12_findStates_61 rfl 0 rfl ?_
      refine tm_iadd dX12_findStates_62 ?_
      refine tm_istore (L' := [(4, .int (iI (((31824 * r) + (144 * k)) + n1))), (3, .int (iI n1)), (2, .int (iI k)), (0, .ref b), (1, .int (iI r))]) dX12_findStates_63 (by decide) rfl ?_
      refine tm_aload_n dX12_findStates_65 rfl 3 rfl ?_
      refine tm_get (k := 49) (v := .ref (b + 1 + 27)) lay_12 dX12_findStates_66 (by decide) fl12_99 rfl ?_
      refine tm_iload dX12_findStates_69 0 rfl ?_
      refine tm_bipush dX12_findStates_71 (by decide) ?_
      refine tm_iast (z := ((31824 * r) + (144 * k)) + n1) (v := 11) dX12_findStates_73 (show mT[27]? = some (49, 0, 190944) from rfl) (by omega) (by omega) (by decide) ?_
      refine tm_aload_n dX12_findStates_74 rfl 3 rfl ?_
      refine tm_get (k := 50) (v := .ref (b + 1 + 28)) lay_12 dX12_findStates_75 (by decide) fl12_102 rfl ?_
      refine tm_iload dX12_findStates_78 0 rfl ?_
      refine tm_iconst dX12_findStates_80 ?_
      refine tm_iast (z := ((31824 * r) + (144 * k)) + n1) (v := 0) dX12_findStates_81 (show mT[28]? = some (50, 0, 190944) from rfl) (by omega) (by omega) (by decide) ?_
      refine tm_aload_n dX12_findStates_82 rfl 3 rfl ?_
      refine tm_get (k := 51) (v := .ref (b + 1 + 29)) lay_12 dX12_findStates_83 (by decide) fl12_105 rfl ?_
      refine tm_iload dX12_findStates_86 0 rfl ?_
      refine tm_iconst dX12_findStates_88 ?_
      refine tm_iast (z := ((31824 * r) + (144 * k)) + n1) (v := 0) dX12_findStates_89 (show mT[29]? = some (51, 0, 190944) from rfl) (by omega) (by omega) (by decide) ?_
      refine tm_aload_n dX12_findStates_90 rfl 3 rfl ?_
      refine tm_get (k := 52) (v := .ref (b + 1 + 30)) lay_12 dX12_findStates_91 (by decide) fl12_108 rfl ?_
      refine tm_iload dX12_findStates_94 0 rfl ?_
      refine tm_iconst dX12_findStates_96 ?_
      refine tm_iast (z := ((31824 * r) + (144 * k)) + n1) (v := 0) dX12_findStates_97 (show mT[30]? = some (52, 0, 190944) from rfl) (by omega) (by omega) (by decide) ?_
      refine tm_aload_n dX12_findStates_98 rfl 3 rfl ?_
      refine tm_get (k := 53) (v := .ref (b + 1 + 31)) lay_12 dX12_findStates_99 (by decide) fl12_111 rfl ?_
      refine tm_iload dX12_findStates_102 0 rfl ?_
      refine tm_iconst dX12_findStates_104 ?_
      refine tm_iast (z := ((31824 * r) + (144 * k)) + n1) (v := 0) dX12_findStates_105 (show mT[31]? = some (53, 0, 190944) from rfl) (by omega) (by omega) (by decide) ?_
      refine tm_iinc (q0 := 1) (L' := [(3, .int (iI (n1 + 1))), (4, .int (iI (((31824 * r) + (144 * k)) + n1))), (2, .int (iI k)), (0, .ref b), (1, .int (iI r))]) dX12_findStates_106 rfl (by decide) rfl ?_
      refine tm_goto (tgt := 43) dX12_findStates_109 (by decide) ?_
      exact tm_sub [0, 2, 3, 4] rfl (ih _ (by omega) (n1 + 1) (sA 53 (((31824 * r) + (144 * k)) + n1) (0) (sA 52 (((31824 * r) + (144 * k)) + n1) (0) (sA 51 (((31824 * r) + (144 * k)) + n1) (0) (sA 50 (((31824 * r) + (144 * k)) + n1) (0) (sA 49 (((31824 * r) + (144 * k)) + n1) (11) σ))))) ((((((Fr.rfl.trans (Fr.sub hF (by decide) (by decide) (by decide))).A (by decide)).A (by decide)).A (by decide)).A (by decide)).A (by decide)) (((((hR.A (by omega)).A (by omega)).A (by omega)).A (by omega)).A (by omega)) (by omega) (hss.put (n := 31824 * r + 144 * k + n1) (w := 11) (ka := 0) (a := 0) (kb := 0) (c := 0) (by omega) (by omega)) (fun n a c => (congrFun (fSt_w (n := 31824 * r + 144 * k + n1) (w := 11) (ka := 0) (a := 0) (kb := 0) (c := 0) (σ := σ)) _).trans (by
          by_cases q : n = n1
          · exact if_pos (by omega)
          · exact (if_neg (by omega)).trans (hun n a (by omega)))) (fun y c => (congrFun (fSt_w (n := 31824 * r + 144 * k + n1) (w := 11) (ka := 0) (a := 0) (kb := 0) (c := 0) (σ := σ)) _).trans ((if_neg (by omega)).trans (hre y c))) (hu1.put (by omega)) (hel.put (by omega)) (hg4.put (y := 31824 * r + 144 * k + n1) (w := 11) (ka := 0) (a := 0) (kb := 0) (c := 0) (fun e => absurd e (by decide))) rfl)
set_option maxHeartbeats 2000000 in
set_option maxRecDepth 20000 in
theorem f_states1 (d : Nat) {b : Nat} {σ0 : MS} {r : Int} {post : Option Value → MS → Prop} (hr : 0 ≤ r ∧ r < 6) (hR0 : RG σ0) (hit : 0 ≤ σ0.2.1 9 r ∧ σ0.2.1 9 r ≤ 220) (hx_118 : ∀ (k : Int) (σ : MS) , (Fr [] [47, 49, 50, 51, 52, 53] [] σ0 σ) → (RG σ) → (BO 47 σ) → (SSA σ) → (UNR σ r (σ0.2.1 9 r)) → (UN2 σ0 σ r (σ0.2.1 9 r + 1)) → Tm (d + 1) m_X12_findStates 118 b σ [(2, .int (iI k)), (0, .ref b), (1, .int (iI r))] [] post) : ∀ (n : Nat) (k : Int) (σ : MS) , (Fr [] [47, 49, 50, 51, 52, 53] [] σ0 σ) → (RG σ) → (0 ≤ k ∧ k ≤ 221 ∧ k ≤ σ0.2.1 9 r + 1) → (BO 47 σ) → (SSA σ) → (∀ j, 0 ≤ j → j < k → ∀ n, 0 ≤ n → n < 144 → σ.2.1 49 (31824 * r + 144 * j + n) = 11) → (UN2 σ0 σ r k) → (221 - k).toNat = n → Tm (d + 1) m_X12_findStates 24 b σ [(2, .int (iI k)), (0, .ref b), (1, .int (iI r))] [] post := by
  intro n
  induction n using Nat.strongRecOn with
  | _ n ih =>
    intro k σ hF hR h0 hbo hss hun hu2 hm
    have e9 : σ.2.1 9 r = σ0.2.1 9 r := congrFun (hF.2.1 9 (by decide)) _
    refine tm_iload_n dX12_findStates_24 rfl 0 rfl ?_
    refine tm_aload_n dX12_findStates_25 rfl 1 rfl ?_
    refine tm_get (k := 9) (v := .ref (b + 1 + 7)) lay_12 dX12_findStates_26 (by decide) fl12_32 rfl ?_
    refine tm_iload_n dX12_findStates_29 rfl 2 rfl ?_
    refine tm_iald (z := r) (v := σ0.2.1 9 r) dX12_findStates_30 (show mT[7]? = some (9, 0, 13) from rfl) (by omega) (by omega) (by decide) (ra_F hF (by decide) (rfl)) ?_
    have g1 := RG.a hR0 9 (r)
    refine tm_icmp_gt (tgt := 118) dX12_findStates_31 (by decide) ⟨by omega, by omega⟩ ⟨by omega, by omega⟩ (fun h2 => ?_) (fun h2 => ?_)
    · exact tm_sub [0, 1, 2] rfl (hx_118 (k) σ (Fr.rfl.trans (Fr.sub hF (by decide) (by decide) (by decide))) hR hbo hss (fun j a c e n g i => hun j a (by omega) n g i) (by rw [show σ0.2.1 9 r + 1 = k by omega]; exact hu2))
    · refine tm_aload_n dX12_findStates_34 rfl 1 rfl ?_
      refine tm_get (k := 47) (v := .ref (b + 1 + 25)) lay_12 dX12_findStates_35 (by decide) fl12_91 rfl ?_
      refine tm_iload_n dX12_findStates_38 rfl 0 rfl ?_
      refine tm_iconst dX12_findStates_39 ?_
      refine tm_zast (z := k) (v := 0) dX12_findStates_40 (show mT[25]? = some (47, 2, 221) from rfl) (by omega) (by omega) (by decide) (by omega) ?_
      refine tm_iconst dX12_findStates_41 ?_
      refine tm_istore_n (L' := [(3, .int (iI 0)), (2, .int (iI k)), (0, .ref b), (1, .int (iI r))]) dX12_findStates_42 rfl (by decide) rfl ?_
      refine tm_sub [0, 1, 2, 3] rfl (f_states2 (d) (σ0 := (sA 47 (k) (0) σ)) (r := r) (k := k) (by omega) (by omega) (fun n113 σ14 F5 R6 f7 f8 f9 f10 f11 f12 => ?_) _ (0) (sA 47 (k) (0) σ) Fr.rfl (hR.A (by omega)) (by omega) hss (fun n a c => by omega) (fun y _ => rfl) (fun n a c => by omega) (fun y _ => rfl) hu2.2.2 rfl)
      show Tm _ _ 112 b σ14 [(3, .int (iI n113)), (2, .int (iI k)), (0, .ref b), (1, .int (iI r))] [] _
      refine tm_iinc (q0 := 1) (L' := [(2, .int (iI (k + 1))), (3, .int (iI n113)), (0, .ref b), (1, .int (iI r))]) dX12_findStates_112 rfl (by decide) rfl ?_
      refine tm_goto (tgt := 24) dX12_findStates_115 (by decide) ?_
      exact tm_sub [0, 2, 3] rfl (ih _ (by omega) (k + 1) σ14 (((Fr.rfl.trans (Fr.sub hF (by decide) (by decide) (by decide))).A (by decide)).trans (Fr.sub F5 (by decide) (by decide) (by decide))) R6 (by omega) ((hbo.A (by omega)).fr F5 (by decide)) f7 (fun j a c n g i => by
          by_cases q : j = k
          · subst q; exact f8 n g i
          · exact (f9 _ (by omega)).trans (hun j a (by omega) n g i)) (hu2.step (by omega) F5 f10 f11 f12) rfl)
set_option maxHeartbeats 2000000 in
set_option maxRecDepth 20000 in
theorem f_states3 (d : Nat) {b : Nat} {σ0 : MS} {r : Int} {post : Option Value → MS → Prop} (hr : 0 ≤ r ∧ r < 6) (hR0 : RG σ0) (hpm : 0 ≤ σ0.2.1 12 r ∧ σ0.2.1 12 r ≤ 12 ∧ 0 ≤ σ0.2.1 11 r ∧ σ0.2.1 11 r ≤ 4) (hnm : ∀ n, 0 ≤ n → n < σ0.2.1 12 r → 0 ≤ σ0.2.1 18 (144 * r + n) ∧ σ0.2.1 18 (144 * r + n) < 192) (hx_217 : ∀ (n1 : Int) (σ : MS) , (Fr [] [54, 55, 56, 57, 58] [] σ0 σ) → (RG σ) → (SCA σ) → (BG1 σ (bgT σ0 r) 144) → Tm (d + 2) m_X12_findStates 217 b σ [(2, .int (iI n1)), (0, .ref b), (1, .int (iI r))] [] post) : ∀ (n : Nat) (n1 : Int) (σ : MS) , (Fr [] [54, 55, 56, 57, 58] [] σ0 σ) → (RG σ) → (0 ≤ n1 ∧ n1 ≤ 144) → (SCA σ) → (BG1 σ (bgT σ0 r) n1) → (144 - n1).toNat = n → Tm (d + 2) m_X12_findStates 120 b σ [(2, .int (iI n1)), (0, .ref b), (1, .int (iI r))] [] post := by
  intro n
  induction n using Nat.strongRecOn with
  | _ n ih =>
    intro n1 σ hF hR h0 hsc hbg hm
    have e12 : σ.2.1 12 r = σ0.2.1 12 r := congrFun (hF.2.1 12 (by decide)) _
    have e11 : σ.2.1 11 r = σ0.2.1 11 r := congrFun (hF.2.1 11 (by decide)) _
    refine tm_iload_n dX12_findStates_120 rfl 0 rfl ?_
    refine tm_sipush dX12_findStates_121 (by decide) ?_
    refine tm_icmp_ge (tgt := 217) dX12_findStates_124 (by decide) ⟨by omega, by omega⟩ ⟨by decide, by decide⟩ (fun h1 => ?_) (fun h1 => ?_)
    · exact tm_sub [0, 1, 2] rfl (hx_217 (n1) σ (Fr.rfl.trans (Fr.sub hF (by decide) (by decide) (by decide))) hR hsc (by rw [show (144 : Int) = n1 by omega]; exact hbg))
    · refine tm_aload_n dX12_findStates_127 rfl 1 rfl ?_
      refine tm_iload_n dX12_findStates_128 rfl 0 rfl ?_
      refine tm_bipush dX12_findStates_129 (by decide) ?_
      refine tm_iconst dX12_findStates_131 ?_
      refine tm_iconst dX12_findStates_132 ?_
      refine tm_iconst dX12_findStates_133 ?_
      refine tm_iconst dX12_findStates_134 ?_
      refine tm_callV (M := m_X12_findStates) (pc := 135) (ix := 416) (M' := m_X12_setNow) (As := [.int (iI n1), .int (iI 11), .int (iI 0), .int (iI 0), .int (iI 0), .int (iI 0)]) (rest := []) dX12_findStates_135 ok_X12_setNow im_X12_setNow se_X12_setNow ml12_416 np_X12_setNow rfl rfl (Nat.le_of_ble_eq_true rfl) (Nat.le_of_ble_eq_true rfl) rfl (c_X12_setNow (d) (σ := σ) (n := n1) (w := 11) (ka := 0) (a := 0) (kb := 0) (c := 0) (by omega)) (fun r2 σ3 hp => ?_)
      obtain ⟨rfl, f5⟩ := hp
      subst f5
      show Tm _ _ 138 b (fNow (n1) (11) (0) (0) (0) (0) σ) [(2, .int (iI n1)), (0, .ref b), (1, .int (iI r))] [] _
      refine tm_iload_n dX12_findStates_138 rfl 0 rfl ?_
      refine tm_aload_n dX12_findStates_139 rfl 1 rfl ?_
      refine tm_get (k := 12) (v := .ref (b + 1 + 9)) lay_12 dX12_findStates_140 (by decide) fl12_38 rfl ?_
      refine tm_iload_n dX12_findStates_143 rfl 2 rfl ?_
      refine tm_iald (z := r) (v := σ0.2.1 12 r) dX12_findStates_144 (show mT[9]? = some (12, 0, 6) from rfl) (by omega) (by omega) (by decide) (ra_F fNow_fr (by decide) (ra_F hF (by decide) (rfl))) ?_
      have g6 := RG.a hR0 12 (r)
      refine tm_icmp_ge (tgt := 211) dX12_findStates_145 (by decide) ⟨by omega, by omega⟩ ⟨by omega, by omega⟩ (fun h7 => ?_) (fun h7 => ?_)
      · refine tm_iinc (q0 := 0) (L' := [(2, .int (iI (n1 + 1))), (0, .ref b), (1, .int (iI r))]) dX12_findStates_211 rfl (by decide) rfl ?_
        refine tm_goto (tgt := 120) dX12_findStates_214 (by decide) ?_
        exact tm_sub [0, 1, 2] rfl (ih _ (by omega) (n1 + 1) (fNow (n1) (11) (0) (0) (0) (0) σ) ((Fr.rfl.trans (Fr.sub hF (by decide) (by decide) (by decide))).trans (Fr.sub fNow_fr (by decide) (by decide) (by decide))) (hR.now (by omega)) (by omega) (hsc.put (by omega) (by omega)) (hbg.put (by omega) (bgT_0 (by omega) (by omega))) rfl)
      · have hq := hnm n1 (by omega) (by omega)
        refine tm_aload_n dX12_findStates_148 rfl 1 rfl ?_
        refine tm_iload_n dX12_findStates_149 rfl 0 rfl ?_
        refine tm_iload_n dX12_findStates_150 rfl 0 rfl ?_
        refine tm_aload_n dX12_findStates_151 rfl 1 rfl ?_
        refine tm_get (k := 11) (v := .ref (b + 1 + 8)) lay_12 dX12_findStates_152 (by decide) fl12_35 rfl ?_
        refine tm_iload_n dX12_findStates_155 rfl 2 rfl ?_
        refine tm_iald (z := r) (v := σ0.2.1 11 r) dX12_findStates_156 (show mT[8]? = some (11, 0, 6) from rfl) (by omega) (by omega) (by decide) (ra_F fNow_fr (by decide) (ra_F hF (by decide) (rfl))) ?_
        have g8 := RG.a hR0 11 (r)
        refine tm_icmp_ge (tgt := 164) dX12_findStates_157 (by decide) ⟨by omega, by omega⟩ ⟨by omega, by omega⟩ (fun h10 => ?_) (fun h10 => ?_)
        · refine tm_iconst dX12_findStates_164 ?_
          refine tm_iload_n dX12_findStates_165 rfl 0 rfl ?_
          refine tm_aload_n dX12_findStates_166 rfl 1 rfl ?_
          refine tm_get (k := 11) (v := .ref (b + 1 + 8)) lay_12 dX12_findStates_167 (by decide) fl12_35 rfl ?_
          refine tm_iload_n dX12_findStates_170 rfl 2 rfl ?_
          refine tm_iald (z := r) (v := σ0.2.1 11 r) dX12_findStates_171 (show mT[8]? = some (11, 0, 6) from rfl) (by omega) (by omega) (by decide) (ra_F fNow_fr (by decide) (ra_F hF (by decide) (rfl))) ?_
          have g11 := RG.a hR0 11 (r)
          refine tm_icmp_ge (tgt := 179) dX12_findStates_172 (by decide) ⟨by omega, by omega⟩ ⟨by omega, by omega⟩ (fun h12 => ?_) (fun h12 => ?_)
          · refine tm_iconst dX12_findStates_179 ?_
            refine tm_iload_n dX12_findStates_180 rfl 0 rfl ?_
            refine tm_aload_n dX12_findStates_181 rfl 1 rfl ?_
            refine tm_get (k := 11) (v := .ref (b + 1 + 8)) lay_12 dX12_findStates_182 (by decide) fl12_35 rfl ?_
            refine tm_iload_n dX12_findStates_185 rfl 2 rfl ?_
            refine tm_iald (z := r) (v := σ0.2.1 11 r) dX12_findStates_186 (show mT[8]? = some (11, 0, 6) from rfl) (by omega) (by omega) (by decide) (ra_F fNow_fr (by decide) (ra_F hF (by decide) (rfl))) ?_
            have g13 := RG.a hR0 11 (r)
            refine tm_icmp_ge (tgt := 205) dX12_findStates_187 (by decide) ⟨by omega, by omega⟩ ⟨by omega, by omega⟩ (fun h14 => ?_) (fun h14 => ?_)
            · refine tm_iconst dX12_findStates_205 ?_
              refine tm_iconst dX12_findStates_206 ?_
              refine tm_iconst dX12_findStates_207 ?_
              refine tm_callV (M := m_X12_findStates) (pc := 208) (ix := 416) (M' := m_X12_setNow) (As := [.int (iI n1), .int (iI 1), .int (iI 1), .int (iI 0), .int (iI 0), .int (iI 0)]) (rest := []) dX12_findStates_208 ok_X12_setNow im_X12_setNow se_X12_setNow ml12_416 np_X12_setNow rfl rfl (Nat.le_of_ble_eq_true rfl) (Nat.le_of_ble_eq_true rfl) rfl (c_X12_setNow (d) (σ := (fNow (n1) (11) (0) (0) (0) (0) σ)) (n := n1) (w := 1) (ka := 1) (a := 0) (kb := 0) (c := 0) (by omega)) (fun r15 σ16 hp => ?_)
              obtain ⟨rfl, f18⟩ := hp
              subst f18
              show Tm _ _ 211 b (fNow (n1) (1) (1) (0) (0) (0) (fNow (n1) (11) (0) (0) (0) (0) σ)) [(2, .int (iI n1)), (0, .ref b), (1, .int (iI r))] [] _
              refine tm_iinc (q0 := 0) (L' := [(2, .int (iI (n1 + 1))), (0, .ref b), (1, .int (iI r))]) dX12_findStates_211 rfl (by decide) rfl ?_
              refine tm_goto (tgt := 120) dX12_findStates_214 (by decide) ?_
              exact tm_sub [0, 1, 2] rfl (ih _ (by omega) (n1 + 1) (fNow (n1) (1) (1) (0) (0) (0) (fNow (n1) (11) (0) (0) (0) (0) σ)) (((Fr.rfl.trans (Fr.sub hF (by decide) (by decide) (by decide))).trans (Fr.sub fNow_fr (by decide) (by decide) (by decide))).trans (Fr.sub fNow_fr (by decide) (by decide) (by decide))) ((hR.now (by omega)).now (by omega)) (by omega) (SCA.put (hsc.put (by omega) (by omega)) (by omega) (by omega)) (hbg.put2 (by omega) (by first | exact bgT_1 (by omega) (by omega) (by omega) | exact bgT_2 (by omega) (by omega) (by omega) (by first | exact congrFun (hF.2.1 18 (by decide)) _ | rfl))) rfl)
            · exact absurd h14 (by omega)
          · exact absurd h12 (by omega)
        · refine tm_iconst dX12_findStates_160 ?_
          refine tm_goto (tgt := 165) dX12_findStates_161 (by decide) ?_
          refine tm_iload_n dX12_findStates_165 rfl 0 rfl ?_
          refine tm_aload_n dX12_findStates_166 rfl 1 rfl ?_
          refine tm_get (k := 11) (v := .ref (b + 1 + 8)) lay_12 dX12_findStates_167 (by decide) fl12_35 rfl ?_
          refine tm_iload_n dX12_findStates_170 rfl 2 rfl ?_
          refine tm_iald (z := r) (v := σ0.2.1 11 r) dX12_findStates_171 (show mT[8]? = some (11, 0, 6) from rfl) (by omega) (by omega) (by decide) (ra_F fNow_fr (by decide) (ra_F hF (by decide) (rfl))) ?_
          have g19 := RG.a hR0 11 (r)
          refine tm_icmp_ge (tgt := 179) dX12_findStates_172 (by decide) ⟨by omega, by omega⟩ ⟨by omega, by omega⟩ (fun h20 => ?_) (fun h20 => ?_)
          · exact absurd h20 (by omega)
          · refine tm_iconst dX12_findStates_175 ?_
            refine tm_goto (tgt := 180) dX12_findStates_176 (by decide) ?_
            refine tm_iload_n dX12_findStates_180 rfl 0 rfl ?_
            refine tm_aload_n dX12_findStates_181 rfl 1 rfl ?_
            refine tm_get (k := 11) (v := .ref (b + 1 + 8)) lay_12 dX12_findStates_182 (by decide) fl12_35 rfl ?_
            refine tm_iload_n dX12_findStates_185 rfl 2 rfl ?_
            refine tm_iald (z := r) (v := σ0.2.1 11 r) dX12_findStates_186 (show mT[8]? = some (11, 0, 6) from rfl) (by omega) (by omega) (by decide) (ra_F fNow_fr (by decide) (ra_F hF (by decide) (rfl))) ?_
            have g21 := RG.a hR0 11 (r)
            refine tm_icmp_ge (tgt := 205) dX12_findStates_187 (by decide) ⟨by omega, by omega⟩ ⟨by omega, by omega⟩ (fun h22 => ?_) (fun h22 => ?_)
            · exact absurd h22 (by omega)
            · refine tm_aload_n dX12_findStates_190 rfl 1 rfl ?_
              refine tm_get (k := 18) (v := .ref (b + 1 + 15)) lay_12 dX12_findStates_191 (by decide) fl12_56 rfl ?_
              refine tm_sipush dX12_findStates_194 (by decide) ?_
              refine tm_iload_n dX12_findStates_197 rfl 2 rfl ?_
              refine tm_imul dX12_findStates_198 ?_
              refine tm_iload_n dX12_findStates_199 rfl 0 rfl ?_
              refine tm_iadd dX12_findStates_200 ?_
              refine tm_iald (z := (144 * r) + n1) (v := σ0.2.1 18 ((144 * r) + n1)) dX12_findStates_201 (show mT[15]? = some (18, 0, 864) from rfl) (by omega) (by omega) (by decide) (ra_F fNow_fr (by decide) (ra_F hF (by decide) (rfl))) ?_
              have g23 := RG.a hR0 18 ((144 * r) + n1)
              refine tm_goto (tgt := 206) dX12_findStates_202 (by decide) ?_
              refine tm_iconst dX12_findStates_206 ?_
              refine tm_iconst dX12_findStates_207 ?_
              refine tm_callV (M := m_X12_findStates) (pc := 208) (ix := 416) (M' := m_X12_setNow) (As := [.int (iI n1), .int (iI 2), .int (iI 2), .int (iI (σ0.2.1 18 ((144 * r) + n1))), .int (iI 0), .int (iI 0)]) (rest := []) dX12_findStates_208 ok_X12_setNow im_X12_setNow se_X12_setNow ml12_416 np_X12_setNow rfl rfl (Nat.le_of_ble_eq_true rfl) (Nat.le_of_ble_eq_true rfl) rfl (c_X12_setNow (d) (σ := (fNow (n1) (11) (0) (0) (0) (0) σ)) (n := n1) (w := 2) (ka := 2) (a := σ0.2.1 18 ((144 * r) + n1)) (kb := 0) (c := 0) (by omega)) (fun r24 σ25 hp => ?_)
              obtain ⟨rfl, f27⟩ := hp
              subst f27
              show Tm _ _ 211 b (fNow (n1) (2) (2) (σ0.2.1 18 ((144 * r) + n1)) (0) (0) (fNow (n1) (11) (0) (0) (0) (0) σ)) [(2, .int (iI n1)), (0, .ref b), (1, .int (iI r))] [] _
              refine tm_iinc (q0 := 0) (L' := [(2, .int (iI (n1 + 1))), (0, .ref b), (1, .int (iI r))]) dX12_findStates_211 rfl (by decide) rfl ?_
              refine tm_goto (tgt := 120) dX12_findStates_214 (by decide) ?_
              exact tm_sub [0, 1, 2] rfl (ih _ (by omega) (n1 + 1) (fNow (n1) (2) (2) (σ0.2.1 18 ((144 * r) + n1)) (0) (0) (fNow (n1) (11) (0) (0) (0) (0) σ)) (((Fr.rfl.trans (Fr.sub hF (by decide) (by decide) (by decide))).trans (Fr.sub fNow_fr (by decide) (by decide) (by decide))).trans (Fr.sub fNow_fr (by decide) (by decide) (by decide))) ((hR.now (by omega)).now (by omega)) (by omega) (SCA.put (hsc.put (by omega) (by omega)) (by omega) (by omega)) (hbg.put2 (by omega) (by first | exact bgT_1 (by omega) (by omega) (by omega) | exact bgT_2 (by omega) (by omega) (by omega) (by first | exact congrFun (hF.2.1 18 (by decide)) _ | rfl))) rfl)
set_option maxHeartbeats 2000000 in
set_option maxRecDepth 20000 in
theorem f_states6 (d : Nat) {b : Nat} {σ0 : MS} {r : Int} {F : Int} {m : Int} {k : Int} {C0 : Int} {w1 : Int} {V : Int → It} {B : Int → DT} {ρ : MS} {post : Option Value → MS → Prop} (hr : 0 ≤ r ∧ r < 6) (hR0 : RG σ0) (hit : ITM σ0) (hpar : PAR σ0) (hok : OKS σ0 F r) (hF12 : 1 ≤ F ∧ F ≤ 12) (htg : TGT σ0 r) (hm : m = σ0.2.1 9 r) (htd : TGD σ0 r) (hV : V = rV σ0 r) (hu : UNQ V m) (hk : 0 ≤ k ∧ k < m) (hck : CKS σ0 V m B k) (hgc : G14c σ0) (hx_309 : ∀ (w : Int) (i : Int) (σ : MS) , (Fr [] [47, 49, 50, 51, 52, 53] [] σ0 σ) → (RG σ) → (w = 0 ∨ w = 1) → (BO 47 σ) → (SSA σ) → (SCA σ) → (UNR σ r m) → (FSI ρ σ r V m B) → ((cz (σ.2.1 47) 221 : Int) + (cw (σ.2.1 49) (31824 * r) 31824 : Int) + w ≤ C0) → (w = 0 → w1 = 0 ∧ ((∀ j, σ.2.1 47 j = σ0.2.1 47 j) ∧ ∀ y, sDT σ y = sDT σ0 y) ∧ ∀ t, EDv V m k t → CLE σ σ0 r t) → Tm (d + 4) m_X12_findStates 309 b σ [(4, .int (iI i)), (3, .int (iI k)), (2, .int (iI w)), (0, .ref b), (1, .int (iI r))] [] post) : ∀ (n : Nat) (w : Int) (i : Int) (σ : MS) , (Fr [] [47, 49, 50, 51, 52, 53] [] σ0 σ) → (RG σ) → ((w = 0 ∨ w = 1) ∧ 0 ≤ i ∧ i ≤ 2) → (BO 47 σ) → (SSA σ) → (SCA σ) → (UNR σ r m) → (FSI ρ σ r V m B) → ((cz (σ.2.1 47) 221 : Int) + (cw (σ.2.1 49) (31824 * r) 31824 : Int) + w ≤ C0) → (w = 0 → w1 = 0 ∧ (∀ j, σ.2.1 47 j = σ0.2.1 47 j) ∧ ∀ y, sDT σ y = sDT σ0 y) → (w = 0 → 1 ≤ i → ¬ (σ.2.1 3 (220 * r + k) = 8 ∨ σ.2.1 3 (220 * r + k) = 7) → CLE σ σ0 r (k + 1)) → (w = 0 → 2 ≤ i → (σ.2.1 3 (220 * r + k) = 8 ∨ σ.2.1 3 (220 * r + k) = 9) → CLE σ σ0 r (σ.2.1 46 (σ.2.1 4 (220 * r + k)))) → (2 - i).toNat = n → Tm (d + 4) m_X12_findStates 263 b σ [(4, .int (iI i)), (3, .int (iI k)), (2, .int (iI w)), (0, .ref b), (1, .int (iI r))] [] post := by
  intro n
  induction n using Nat.strongRecOn with
  | _ n ih =>
    intro w i σ hF hR h0 hbo hss hsc hun hfi hcn hsm hp0 hp1 hm
    have hit1 := hit.fr hF (by decide)
    have hpar1 := hpar.fr hF (by decide)
    have hok1 := hok.fr hF (by decide)
    have htg1 := htg.fr hF (by decide)
    have q1 := hit r (by omega) (by omega)
    have q9 : σ.2.1 9 r = σ0.2.1 9 r := by rw [hF.2.1 9 (by decide)]
    have hV1 : V = rV σ r := hV.trans (rv_fr hF (by decide)).symm
    have htd1 := htd.fr hF (by decide)
    have q5 := htg1 k (by omega) (by omega)
    refine tm_iload dX12_findStates_263 0 rfl ?_
    refine tm_iconst dX12_findStates_265 ?_
    refine tm_icmp_ge (tgt := 309) dX12_findStates_266 (by decide) ⟨by omega, by omega⟩ ⟨by decide, by decide⟩ (fun h1 => ?_) (fun h1 => ?_)
    · exact tm_sub [0, 1, 2, 3, 4] rfl (hx_309 (w) (i) σ (Fr.rfl.trans (Fr.sub hF (by decide) (by decide) (by decide))) hR (by omega) hbo hss hsc hun hfi hcn (fun e => ⟨(hsm e).1, (hsm e).2, fun t w => by
          rcases (ed_V hV1 (by omega) htd1 hu (by omega) (by omega)).mp w with ⟨w1, w2⟩ | ⟨w1, w2⟩
          · rw [w2]; exact hp0 e (by omega) w1
          · rw [w2]; exact hp1 e (by omega) w1⟩))
    · refine tm_aload_n dX12_findStates_269 rfl 3 rfl ?_
      refine tm_iload_n dX12_findStates_270 rfl 4 rfl ?_
      refine tm_iload_n dX12_findStates_271 rfl 1 rfl ?_
      refine tm_iload dX12_findStates_272 0 rfl ?_
      refine tm_callV (M := m_X12_findStates) (pc := 274) (ix := 413) (M' := m_X12_goesOn) (As := [.int (iI r), .int (iI k), .int (iI i)]) (rest := []) dX12_findStates_274 ok_X12_goesOn im_X12_goesOn se_X12_goesOn ml12_413 np_X12_goesOn rfl rfl (Nat.le_of_ble_eq_true rfl) (Nat.le_of_ble_eq_true rfl) rfl (c_X12_goesOn (d + 1) (σ := σ) (r := r) (k := k) (how := i) (by omega) hR (by omega) (fun q => hok1.jmp _ (by omega) (by omega) (by omega)) (by omega)) (fun r2 σ3 hp => ?_)
      obtain ⟨v4, rfl, rfl, f5, f6, f7, f8⟩ := hp
      show Tm _ _ 277 b σ [(4, .int (iI i)), (3, .int (iI k)), (2, .int (iI w)), (0, .ref b), (1, .int (iI r))] [.int (iI v4)] _
      refine tm_istore (L' := [(5, .int (iI v4)), (4, .int (iI i)), (3, .int (iI k)), (2, .int (iI w)), (0, .ref b), (1, .int (iI r))]) dX12_findStates_277 (by decide) rfl ?_
      refine tm_iload_n dX12_findStates_279 rfl 3 rfl ?_
      refine tm_iload dX12_findStates_280 0 rfl ?_
      refine tm_iconst dX12_findStates_282 ?_
      refine tm_icmp_eq (tgt := 300) dX12_findStates_283 (by decide) ⟨by omega, by omega⟩ ⟨by decide, by decide⟩ (fun h10 => ?_) (fun h10 => ?_)
      · refine tm_iconst dX12_findStates_300 ?_
        refine tm_iorZ (x := w) (y := 0) dX12_findStates_301 (by omega) (by omega) (fun c11 g12 => ?_)
        refine tm_istore_n (L' := [(2, .int (iI c11)), (5, .int (iI v4)), (4, .int (iI i)), (3, .int (iI k)), (0, .ref b), (1, .int (iI r))]) dX12_findStates_302 rfl (by decide) rfl ?_
        refine tm_iinc (q0 := 2) (L' := [(4, .int (iI (i + 1))), (2, .int (iI c11)), (5, .int (iI v4)), (3, .int (iI k)), (0, .ref b), (1, .int (iI r))]) dX12_findStates_303 rfl (by decide) rfl ?_
        refine tm_goto (tgt := 263) dX12_findStates_306 (by decide) ?_
        exact tm_sub [0, 3, 1, 4, 5] rfl (ih _ (by omega) (c11) (i + 1) σ (Fr.rfl.trans (Fr.sub hF (by decide) (by decide) (by decide))) hR (by omega) (by assumption) (by assumption) (by first | exact hsc | exact hsc.fr (by assumption) (by decide)) (by assumption) hfi (by omega) (fun e => hsm (by omega)) (fun e a q => by
            by_cases z : i = 0
            · omega
            · exact hp0 (by omega) (by omega) q) (fun e a q => by omega) rfl)
      · refine tm_aload_n dX12_findStates_286 rfl 4 rfl ?_
        refine tm_iload_n dX12_findStates_287 rfl 5 rfl ?_
        refine tm_iload dX12_findStates_288 0 rfl ?_
        have hED : EDv V m k (v4) := (ed_V hV1 (by omega) htd1 hu (by omega) (by omega)).mpr (by omega)
        refine tm_callV (M := m_X12_findStates) (pc := 290) (ix := 423) (M' := m_X12_comes) (As := [.int (iI r), .int (iI v4)]) (rest := [.int (iI w)]) dX12_findStates_290 ok_X12_comes im_X12_comes se_X12_comes ml12_423 np_X12_comes rfl rfl (Nat.le_of_ble_eq_true rfl) (Nat.le_of_ble_eq_true rfl) rfl (f_X12_comes (d + 2) (σ := σ) (r := r) (to := v4) (m := m) (by omega) hR hbo hsc hss (by omega) hun hfi.2.2.2 (hgc.fr hF (by decide))) (fun r13 σ14 hp => ?_)
        obtain ⟨v15, rfl, f16, f17, f18, f19, f20, f21, f22, f23, f24, f25⟩ := hp
        show Tm _ _ 293 b σ14 [(5, .int (iI v4)), (4, .int (iI i)), (3, .int (iI k)), (2, .int (iI w)), (0, .ref b), (1, .int (iI r))] [.int (iI v15), .int (iI w)] _
        refine tm_if_eq (tgt := 300) dX12_findStates_293 (by decide) ⟨by omega, by omega⟩ (fun h32 => ?_) (fun h32 => ?_)
        · refine tm_iconst dX12_findStates_300 ?_
          refine tm_iorZ (x := w) (y := 0) dX12_findStates_301 (by omega) (by omega) (fun c33 g34 => ?_)
          refine tm_istore_n (L' := [(2, .int (iI c33)), (5, .int (iI v4)), (4, .int (iI i)), (3, .int (iI k)), (0, .ref b), (1, .int (iI r))]) dX12_findStates_302 rfl (by decide) rfl ?_
          refine tm_iinc (q0 := 2) (L' := [(4, .int (iI (i + 1))), (2, .int (iI c33)), (5, .int (iI v4)), (3, .int (iI k)), (0, .ref b), (1, .int (iI r))]) dX12_findStates_303 rfl (by decide) rfl ?_
          refine tm_goto (tgt := 263) dX12_findStates_306 (by decide) ?_
          exact tm_sub [0, 3, 1, 4, 5] rfl (ih _ (by omega) (c33) (i + 1) σ14 ((Fr.rfl.trans (Fr.sub hF (by decide) (by decide) (by decide))).trans (Fr.sub f17 (by decide) (by decide) (by decide))) f18 (by omega) (by assumption) (by assumption) (by first | exact hsc | exact hsc.fr (by assumption) (by decide)) (by assumption) (hfi.cmx (hck.c (fun n => cDT.fr hF (by decide))) hED f25 ⟨by omega, by omega⟩) (by omega) (fun e => by
            have hS := CMX.same f25 (by omega)
            have hs1 := hsm (by omega)
            exact ⟨hs1.1, fun j => (hS.1 j).trans (hs1.2.1 j), fun y => (hS.2 y).trans (hs1.2.2 y)⟩) (fun e a q => by
            have hS := CMX.same f25 (by omega)
            have c3 : σ14.2.1 3 (220 * r + k) = σ.2.1 3 (220 * r + k) := congrFun (f17.2.1 3 (by decide)) _
            by_cases z : i = 0
            · have e9 : v4 = k + 1 := by omega
              have e8 := (CLE.mk f25).c (fun n => (cDT.fr hF (by decide)).symm)
              rw [e9] at e8
              exact e8
            · exact (hp0 (by omega) (by omega) (by omega)).same hS) (fun e a q => by
            have hS := CMX.same f25 (by omega)
            have c3 : σ14.2.1 3 (220 * r + k) = σ.2.1 3 (220 * r + k) := congrFun (f17.2.1 3 (by decide)) _
            have c4 : σ14.2.1 4 (220 * r + k) = σ.2.1 4 (220 * r + k) := congrFun (f17.2.1 4 (by decide)) _
            have c46 : σ14.2.1 46 = σ.2.1 46 := f17.2.1 46 (by decide)
            have e9 : v4 = σ.2.1 46 (σ.2.1 4 (220 * r + k)) := by omega
            have e8 := (CLE.mk f25).c (fun n => (cDT.fr hF (by decide)).symm)
            rw [c46, c4, ← e9]
            exact e8) rfl)
        · refine tm_iconst dX12_findStates_296 ?_
          refine tm_goto (tgt := 301) dX12_findStates_297 (by decide) ?_
          refine tm_iorZ (x := w) (y := 1) dX12_findStates_301 (by omega) (by omega) (fun c35 g36 => ?_)
          refine tm_istore_n (L' := [(2, .int (iI c35)), (5, .int (iI v4)), (4, .int (iI i)), (3, .int (iI k)), (0, .ref b), (1, .int (iI r))]) dX12_findStates_302 rfl (by decide) rfl ?_
          refine tm_iinc (q0 := 2) (L' := [(4, .int (iI (i + 1))), (2, .int (iI c35)), (5, .int (iI v4)), (3, .int (iI k)), (0, .ref b), (1, .int (iI r))]) dX12_findStates_303 rfl (by decide) rfl ?_
          refine tm_goto (tgt := 263) dX12_findStates_306 (by decide) ?_
          exact tm_sub [0, 3, 1, 4, 5] rfl (ih _ (by omega) (c35) (i + 1) σ14 ((Fr.rfl.trans (Fr.sub hF (by decide) (by decide) (by decide))).trans (Fr.sub f17 (by decide) (by decide) (by decide))) f18 (by omega) (by assumption) (by assumption) (by first | exact hsc | exact hsc.fr (by assumption) (by decide)) (by assumption) (hfi.cmx (hck.c (fun n => cDT.fr hF (by decide))) hED f25 ⟨by omega, by omega⟩) (by omega) (fun e => by
            have hS := CMX.same f25 (by omega)
            have hs1 := hsm (by omega)
            exact ⟨hs1.1, fun j => (hS.1 j).trans (hs1.2.1 j), fun y => (hS.2 y).trans (hs1.2.2 y)⟩) (fun e a q => by
            have hS := CMX.same f25 (by omega)
            have c3 : σ14.2.1 3 (220 * r + k) = σ.2.1 3 (220 * r + k) := congrFun (f17.2.1 3 (by decide)) _
            by_cases z : i = 0
            · have e9 : v4 = k + 1 := by omega
              have e8 := (CLE.mk f25).c (fun n => (cDT.fr hF (by decide)).symm)
              rw [e9] at e8
              exact e8
            · exact (hp0 (by omega) (by omega) (by omega)).same hS) (fun e a q => by
            have hS := CMX.same f25 (by omega)
            have c3 : σ14.2.1 3 (220 * r + k) = σ.2.1 3 (220 * r + k) := congrFun (f17.2.1 3 (by decide)) _
            have c4 : σ14.2.1 4 (220 * r + k) = σ.2.1 4 (220 * r + k) := congrFun (f17.2.1 4 (by decide)) _
            have c46 : σ14.2.1 46 = σ.2.1 46 := f17.2.1 46 (by decide)
            have e9 : v4 = σ.2.1 46 (σ.2.1 4 (220 * r + k)) := by omega
            have e8 := (CLE.mk f25).c (fun n => (cDT.fr hF (by decide)).symm)
            rw [c46, c4, ← e9]
            exact e8) rfl)
set_option maxHeartbeats 2000000 in
set_option maxRecDepth 20000 in
theorem f_states5 (d : Nat) {b : Nat} {σ0 : MS} {r : Int} {F : Int} {m : Int} {C0 : Int} {V : Int → It} {B : Int → DT} {ρ : MS} {post : Option Value → MS → Prop} (hr : 0 ≤ r ∧ r < 6) (hR0 : RG σ0) (hit : ITM σ0) (hpar : PAR σ0) (hok : OKS σ0 F r) (hF12 : 1 ≤ F ∧ F ≤ 12) (htg : TGT σ0 r) (hm : m = σ0.2.1 9 r) (htd : TGD σ0 r) (hV : V = rV σ0 r) (hu : UNQ V m) (hx_315 : ∀ (w : Int) (k : Int) (σ : MS) , (Fr [] [47, 49, 50, 51, 52, 53, 54, 55, 56, 57, 58] [] σ0 σ) → (RG σ) → (w = 0 ∨ w = 1) → (BO 47 σ) → (SSA σ) → (SCA σ) → (UNR σ r m) → (FSI ρ σ r V m B) → ((cz (σ.2.1 47) 221 : Int) + (cw (σ.2.1 49) (31824 * r) 31824 : Int) + w ≤ C0) → (w = 0 → CLR σ r V m m) → Tm (d + 5) m_X12_findStates 315 b σ [(3, .int (iI k)), (2, .int (iI w)), (0, .ref b), (1, .int (iI r))] [] post) : ∀ (n : Nat) (w : Int) (k : Int) (σ : MS) , (Fr [] [47, 49, 50, 51, 52, 53, 54, 55, 56, 57, 58] [] σ0 σ) → (RG σ) → ((w = 0 ∨ w = 1) ∧ 0 ≤ k ∧ k ≤ m) → (BO 47 σ) → (SSA σ) → (SCA σ) → (UNR σ r m) → (FSI ρ σ r V m B) → ((cz (σ.2.1 47) 221 : Int) + (cw (σ.2.1 49) (31824 * r) 31824 : Int) + w ≤ C0) → (w = 0 → CLR σ r V m k) → (m - k).toNat = n → Tm (d + 5) m_X12_findStates 232 b σ [(3, .int (iI k)), (2, .int (iI w)), (0, .ref b), (1, .int (iI r))] [] post := by
  intro n
  induction n using Nat.strongRecOn with
  | _ n ih =>
    intro w k σ hF hR h0 hbo hss hsc hun hfi hcn hcl hm
    have hit1 := hit.fr hF (by decide)
    have hpar1 := hpar.fr hF (by decide)
    have hok1 := hok.fr hF (by decide)
    have htg1 := htg.fr hF (by decide)
    have q1 := hit r (by omega) (by omega)
    have q9 : σ.2.1 9 r = σ0.2.1 9 r := by rw [hF.2.1 9 (by decide)]
    have hV1 : V = rV σ r := hV.trans (rv_fr hF (by decide)).symm
    have htd1 := htd.fr hF (by decide)
    refine tm_iload_n dX12_findStates_232 rfl 0 rfl ?_
    refine tm_aload_n dX12_findStates_233 rfl 2 rfl ?_
    refine tm_get (k := 9) (v := .ref (b + 1 + 7)) lay_12 dX12_findStates_234 (by decide) fl12_32 rfl ?_
    refine tm_iload_n dX12_findStates_237 rfl 3 rfl ?_
    refine tm_iald (z := r) (v := σ0.2.1 9 r) dX12_findStates_238 (show mT[7]? = some (9, 0, 13) from rfl) (by omega) (by omega) (by decide) (ra_F hF (by decide) (rfl)) ?_
    have g1 := RG.a hR0 9 (r)
    refine tm_icmp_ge (tgt := 315) dX12_findStates_239 (by decide) ⟨by omega, by omega⟩ ⟨by omega, by omega⟩ (fun h2 => ?_) (fun h2 => ?_)
    · exact tm_sub [0, 1, 2, 3] rfl (hx_315 (w) (k) σ (Fr.rfl.trans (Fr.sub hF (by decide) (by decide) (by decide))) hR (by omega) hbo hss hsc hun hfi hcn (fun e => by
        have hz := hcl e
        rw [show k = m by omega] at hz
        exact hz))
    · refine tm_aload_n dX12_findStates_242 rfl 2 rfl ?_
      refine tm_get (k := 47) (v := .ref (b + 1 + 25)) lay_12 dX12_findStates_243 (by decide) fl12_91 rfl ?_
      refine tm_iload_n dX12_findStates_246 rfl 0 rfl ?_
      refine tm_zald (z := k) (v := σ.2.1 47 k) dX12_findStates_247 (show mT[25]? = some (47, 2, 221) from rfl) (by omega) (by omega) (by decide) (rfl) ?_
      have g3 := RG.a hR 47 (k)
      have := hbo (k)
      refine tm_if_ne (tgt := 254) dX12_findStates_248 (by decide) ⟨by omega, by omega⟩ (fun h4 => ?_) (fun h4 => ?_)
      · refine tm_aload_n dX12_findStates_254 rfl 2 rfl ?_
        refine tm_iload_n dX12_findStates_255 rfl 3 rfl ?_
        refine tm_iload_n dX12_findStates_256 rfl 0 rfl ?_
        refine tm_callV (M := m_X12_findStates) (pc := 257) (ix := 427) (M' := m_X12_behindItem) (As := [.int (iI r), .int (iI k)]) (rest := []) dX12_findStates_257 ok_X12_behindItem im_X12_behindItem se_X12_behindItem ml12_427 np_X12_behindItem rfl rfl (Nat.le_of_ble_eq_true rfl) (Nat.le_of_ble_eq_true rfl) rfl (f_X12_behindItem (d) (σ := σ) (r := r) (k := k) (F := F) (by omega) hR hit1 hpar1 hok1 hF12 hss hsc (by omega)) (fun r5 σ6 hp => ?_)
        obtain ⟨rfl, f8, f9, f10, f11⟩ := hp
        show Tm _ _ 260 b σ6 [(3, .int (iI k)), (2, .int (iI w)), (0, .ref b), (1, .int (iI r))] [] _
        have hbh := f11
        refine tm_iconst dX12_findStates_260 ?_
        refine tm_istore (L' := [(4, .int (iI 0)), (3, .int (iI k)), (2, .int (iI w)), (0, .ref b), (1, .int (iI r))]) dX12_findStates_261 (by decide) rfl ?_
        refine tm_sub [0, 1, 2, 3, 4] rfl (f_states6 (d + 1) (σ0 := σ6) (r := r) (k := k) (F := F) (m := m) (C0 := C0) (w1 := w) (V := V) (B := B) (ρ := ρ) hr f9 (hit1.fr f8 (by decide)) (hpar1.fr f8 (by decide)) (hok1.fr f8 (by decide)) hF12 (htg1.fr f8 (by decide)) (by rw [(f8).2.1 9 (by decide)]; omega) (htd1.fr f8 (by decide)) (hV1.trans (rv_fr f8 (by decide)).symm) hu (by omega) (hfi.1.1.cks hbh hV1 (by omega) (by omega) (by omega) (by omega)) (hbh.g14 hfi.2.2.2) (fun w25 i26 σ27 F15 R16 f17 f18 f19 f20 f21 f22 f23 f24 => ?_) _ (w) (0) σ6 Fr.rfl f9 (by omega) (hbo.fr f8 (by decide)) (hss.fr f8 (by decide)) (by assumption) (by unfold UNR; rw [(f8).2.1 47 (by decide), (f8).2.1 49 (by decide)]; exact hun) (hfi.fr f8 (by decide)) (by rw [(f8).2.1 47 (by decide), (f8).2.1 49 (by decide)]; omega) (fun e => ⟨e, fun _ => rfl, fun _ => rfl⟩) (fun e a => by omega) (fun e a => by omega) rfl)
        show Tm _ _ 309 b σ27 [(4, .int (iI i26)), (3, .int (iI k)), (2, .int (iI w25)), (0, .ref b), (1, .int (iI r))] [] _
        refine tm_iinc (q0 := 1) (L' := [(3, .int (iI (k + 1))), (4, .int (iI i26)), (2, .int (iI w25)), (0, .ref b), (1, .int (iI r))]) dX12_findStates_309 rfl (by decide) rfl ?_
        refine tm_goto (tgt := 232) dX12_findStates_312 (by decide) ?_
        exact tm_sub [0, 2, 3, 4] rfl (ih _ (by omega) (w25) (k + 1) σ27 (((Fr.rfl.trans (Fr.sub hF (by decide) (by decide) (by decide))).trans (Fr.sub f8 (by decide) (by decide) (by decide))).trans (Fr.sub F15 (by decide) (by decide) (by decide))) R16 (by omega) (by assumption) (by assumption) (by assumption) (by assumption) (by assumption) (by omega) (fun e => by
            have hX := f24 e
            exact CLR.step (hcl (by omega)) hbh hV1 (by omega) (by omega) (by omega) ⟨fun j => (hX.2.1.1 j).trans (congrFun (f8.2.1 47 (by decide)) j), fun y => (hX.2.1.2 y).trans (sDT.fr f8 (by decide))⟩ hX.2.2) rfl)
      · refine tm_goto (tgt := 309) dX12_findStates_251 (by decide) ?_
        refine tm_iinc (q0 := 0) (L' := [(3, .int (iI (k + 1))), (2, .int (iI w)), (0, .ref b), (1, .int (iI r))]) dX12_findStates_309 rfl (by decide) rfl ?_
        refine tm_goto (tgt := 232) dX12_findStates_312 (by decide) ?_
        exact tm_sub [0, 1, 2, 3] rfl (ih _ (by omega) (w) (k + 1) σ (Fr.rfl.trans (Fr.sub hF (by decide) (by decide) (by decide))) hR (by omega) (by assumption) (by assumption) (by assumption) (by assumption) (by assumption) (by omega) (fun e => (hcl e).skip (by omega)) rfl)
set_option maxHeartbeats 2000000 in
set_option maxRecDepth 20000 in
theorem f_states4 (d : Nat) {b : Nat} {σ0 : MS} {r : Int} {F : Int} {m : Int} {V : Int → It} {B : Int → DT} {ρ : MS} {post : Option Value → MS → Prop} (hr : 0 ≤ r ∧ r < 6) (hR0 : RG σ0) (hit : ITM σ0) (hpar : PAR σ0) (hok : OKS σ0 F r) (hF12 : 1 ≤ F ∧ F ≤ 12) (htg : TGT σ0 r) (hm : m = σ0.2.1 9 r) (htd : TGD σ0 r) (hV : V = rV σ0 r) (hu : UNQ V m) (hx_318 : ∀ (w : Int) (σ : MS) , (Fr [] [47, 49, 50, 51, 52, 53, 54, 55, 56, 57, 58] [] σ0 σ) → (RG σ) → (BO 47 σ) → (SSA σ) → (SCA σ) → (FSI ρ σ r V m B) → (CLR σ r V m m) → Tm (d + 5) m_X12_findStates 318 b σ [(2, .int (iI w)), (0, .ref b), (1, .int (iI r))] [] post) : ∀ (n : Nat) (w : Int) (σ : MS) , (Fr [] [47, 49, 50, 51, 52, 53, 54, 55, 56, 57, 58] [] σ0 σ) → (RG σ) → (w = 0 ∨ w = 1) → (BO 47 σ) → (SSA σ) → (SCA σ) → (UNR σ r m) → (FSI ρ σ r V m B) → (w = 0 → CLR σ r V m m) → ((cz (σ.2.1 47) 221 : Int) + (cw (σ.2.1 49) (31824 * r) 31824 : Int) + w).toNat = n → Tm (d + 5) m_X12_findStates 224 b σ [(2, .int (iI w)), (0, .ref b), (1, .int (iI r))] [] post := by
  intro n
  induction n using Nat.strongRecOn with
  | _ n ih =>
    intro w σ hF hR h0 hbo hss hsc hun hfi hcl hm
    have hit1 := hit.fr hF (by decide)
    have hpar1 := hpar.fr hF (by decide)
    have hok1 := hok.fr hF (by decide)
    have htg1 := htg.fr hF (by decide)
    have q1 := hit r (by omega) (by omega)
    have q9 : σ.2.1 9 r = σ0.2.1 9 r := by rw [hF.2.1 9 (by decide)]
    have hV1 : V = rV σ r := hV.trans (rv_fr hF (by decide)).symm
    have htd1 := htd.fr hF (by decide)
    refine tm_iload_n dX12_findStates_224 rfl 0 rfl ?_
    refine tm_if_eq (tgt := 318) dX12_findStates_225 (by decide) ⟨by omega, by omega⟩ (fun h1 => ?_) (fun h1 => ?_)
    · exact tm_sub [0, 1, 2] rfl (hx_318 (w) σ (Fr.rfl.trans (Fr.sub hF (by decide) (by decide) (by decide))) hR hbo hss hsc hfi (hcl (by omega)))
    · refine tm_iconst dX12_findStates_228 ?_
      refine tm_istore_n (L' := [(2, .int (iI 0)), (0, .ref b), (1, .int (iI r))]) dX12_findStates_229 rfl (by decide) rfl ?_
      refine tm_iconst dX12_findStates_230 ?_
      refine tm_istore_n (L' := [(3, .int (iI 0)), (2, .int (iI 0)), (0, .ref b), (1, .int (iI r))]) dX12_findStates_231 rfl (by decide) rfl ?_
      refine tm_sub [0, 1, 2, 3] rfl (f_states5 (d) (σ0 := σ) (r := r) (F := F) (m := m) (C0 := ((cz (σ.2.1 47) 221 : Int) + (cw (σ.2.1 49) (31824 * r) 31824 : Int))) (V := V) (B := B) (ρ := ρ) hr hR hit1 hpar1 hok1 hF12 htg1 (by omega) htd1 hV1 hu (fun w15 k16 σ17 F5 R6 f7 f8 f9 f10 f11 f12 f13 f14 => ?_) _ (0) (0) σ Fr.rfl hR (by omega) hbo hss hsc hun hfi (by omega) (fun e j a c => by omega) rfl)
      show Tm _ _ 315 b σ17 [(3, .int (iI k16)), (2, .int (iI w15)), (0, .ref b), (1, .int (iI r))] [] _
      refine tm_goto (tgt := 224) dX12_findStates_315 (by decide) ?_
      exact tm_sub [1, 2, 3] rfl (ih _ (by omega) (w15) σ17 ((Fr.rfl.trans (Fr.sub hF (by decide) (by decide) (by decide))).trans (Fr.sub F5 (by decide) (by decide) (by decide))) R6 (by omega) (by assumption) (by assumption) (by assumption) (by assumption) (by assumption) (by assumption) rfl)
end
