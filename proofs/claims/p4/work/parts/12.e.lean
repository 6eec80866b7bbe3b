theorem dX12_dropAll_17 : decode cX12_dropAll 17 = .ok (.iload 4, 2) := by decide +kernel
theorem dX12_dropAll_19 : decode cX12_dropAll 19 = .ok (.aload_n 0, 1) := by decide +kernel
theorem dX12_dropAll_20 : decode cX12_dropAll 20 = .ok (.getfield 32, 3) := by decide +kernel
theorem dX12_dropAll_23 : decode cX12_dropAll 23 = .ok (.iload_n 1, 1) := by decide +kernel
theorem dX12_dropAll_24 : decode cX12_dropAll 24 = .ok (.iaload, 1) := by decide +kernel
theorem dX12_dropAll_25 : decode cX12_dropAll 25 = .ok (.if_icmp .ge 68, 3) := by decide +kernel
theorem dX12_dropAll_28 : decode cX12_dropAll 28 = .ok (.aload_n 0, 1) := by decide +kernel
theorem dX12_dropAll_29 : decode cX12_dropAll 29 = .ok (.getfield 91, 3) := by decide +kernel
theorem dX12_dropAll_32 : decode cX12_dropAll 32 = .ok (.iload 4, 2) := by decide +kernel
theorem dX12_dropAll_34 : decode cX12_dropAll 34 = .ok (.baload, 1) := by decide +kernel
theorem dX12_dropAll_35 : decode cX12_dropAll 35 = .ok (.ifCond .eq 26, 3) := by decide +kernel
theorem dX12_dropAll_61 : decode cX12_dropAll 61 = .ok (.iload_n 2, 1) := by decide +kernel
theorem dX12_dropAll_62 : decode cX12_dropAll 62 = .ok (.aload_n 0, 1) := by decide +kernel
theorem dX12_dropAll_63 : decode cX12_dropAll 63 = .ok (.getfield 13, 3) := by decide +kernel
theorem dX12_dropAll_66 : decode cX12_dropAll 66 = .ok (.aload_n 0, 1) := by decide +kernel
theorem dX12_dropAll_67 : decode cX12_dropAll 67 = .ok (.iload_n 1, 1) := by decide +kernel
theorem dX12_dropAll_68 : decode cX12_dropAll 68 = .ok (.iload 4, 2) := by decide +kernel
theorem dX12_dropAll_70 : decode cX12_dropAll 70 = .ok (.invokevirtual 203, 3) := by decide +kernel
theorem dX12_dropAll_73 : decode cX12_dropAll 73 = .ok (.iaload, 1) := by decide +kernel
theorem dX12_dropAll_74 : decode cX12_dropAll 74 = .ok (.invokestatic 401, 3) := by decide +kernel
theorem dX12_dropAll_77 : decode cX12_dropAll 77 = .ok (.ifCond .eq 7, 3) := by decide +kernel
theorem dX12_dropAll_84 : decode cX12_dropAll 84 = .ok (.iconst 0, 1) := by decide +kernel
theorem dX12_dropAll_85 : decode cX12_dropAll 85 = .ok (.iadd, 1) := by decide +kernel
theorem dX12_dropAll_86 : decode cX12_dropAll 86 = .ok (.istore_n 2, 1) := by decide +kernel
theorem dX12_dropAll_87 : decode cX12_dropAll 87 = .ok (.iinc 4 1, 3) := by decide +kernel
theorem dX12_dropAll_90 : decode cX12_dropAll 90 = .ok (.goto (-73), 3) := by decide +kernel
theorem dX12_dropAll_80 : decode cX12_dropAll 80 = .ok (.iconst 1, 1) := by decide +kernel
theorem dX12_dropAll_81 : decode cX12_dropAll 81 = .ok (.goto 4, 3) := by decide +kernel
theorem dX12_dropAll_38 : decode cX12_dropAll 38 = .ok (.aload_n 0, 1) := by decide +kernel
theorem dX12_dropAll_39 : decode cX12_dropAll 39 = .ok (.aload_n 0, 1) := by decide +kernel
theorem dX12_dropAll_40 : decode cX12_dropAll 40 = .ok (.iload_n 1, 1) := by decide +kernel
theorem dX12_dropAll_41 : decode cX12_dropAll 41 = .ok (.iload 4, 2) := by decide +kernel
theorem dX12_dropAll_43 : decode cX12_dropAll 43 = .ok (.invokevirtual 203, 3) := by decide +kernel
theorem dX12_dropAll_46 : decode cX12_dropAll 46 = .ok (.aload_n 0, 1) := by decide +kernel
theorem dX12_dropAll_47 : decode cX12_dropAll 47 = .ok (.iload_n 1, 1) := by decide +kernel
theorem dX12_dropAll_48 : decode cX12_dropAll 48 = .ok (.iload_n 3, 1) := by decide +kernel
theorem dX12_dropAll_49 : decode cX12_dropAll 49 = .ok (.invokevirtual 203, 3) := by decide +kernel
theorem dX12_dropAll_52 : decode cX12_dropAll 52 = .ok (.invokevirtual 394, 3) := by decide +kernel
theorem dX12_dropAll_55 : decode cX12_dropAll 55 = .ok (.iinc 3 1, 3) := by decide +kernel
theorem dX12_dropAll_58 : decode cX12_dropAll 58 = .ok (.goto 29, 3) := by decide +kernel
set_option maxHeartbeats 1000000 in
set_option maxRecDepth 20000 in
theorem l_drop1 (d : Nat) {b : Nat} {σ0 : MS} {r : Int} {F : Int} {post : Option Value → MS → Prop} (hr : 0 ≤ r ∧ r < 6) (hR0 : RG σ0) (hit : ITM σ0) (hok : OKS σ0 F r) (hbo : BO 47 σ0) (hx_93 : ∀ (w : Int) (t : Int) (k : Int) (σ : MS) , (Fr [] [3, 4, 5, 6, 7, 8] [] σ0 σ) → (RG σ) → (0 ≤ t ∧ t ≤ σ0.2.1 9 r ∧ 0 ≤ w ∧ w ≤ 220) → (DLP σ0 σ r F (σ0.2.1 9 r) t) → Tm (d + 2) m_X12_dropAll 93 b σ [(4, .int (iI k)), (3, .int (iI t)), (2, .int (iI w)), (0, .ref b), (1, .int (iI r))] [] post) : ∀ (n : Nat) (w : Int) (t : Int) (k : Int) (σ : MS) , (Fr [] [3, 4, 5, 6, 7, 8] [] σ0 σ) → (RG σ) → (0 ≤ t ∧ t ≤ k ∧ k ≤ σ0.2.1 9 r ∧ 0 ≤ w ∧ w ≤ k) → (DLP σ0 σ r F k t) → (220 - k).toNat = n → Tm (d + 2) m_X12_dropAll 17 b σ [(4, .int (iI k)), (3, .int (iI t)), (2, .int (iI w)), (0, .ref b), (1, .int (iI r))] [] post := by
  intro n
  induction n using Nat.strongRecOn with
  | _ n ih =>
    intro w t k σ hF hR h0 hlp hm
    have q1 := hit r (by omega) (by omega)
    have q9 : σ.2.1 9 r = σ0.2.1 9 r := by rw [hF.2.1 9 (by decide)]
    refine tm_iload dX12_dropAll_17 0 rfl ?_
    refine tm_aload_n dX12_dropAll_19 rfl 3 rfl ?_
    refine tm_get (k := 9) (v := .ref (b + 1 + 7)) lay_12 dX12_dropAll_20 (by decide) fl12_32 rfl ?_
    refine tm_iload_n dX12_dropAll_23 rfl 4 rfl ?_
    refine tm_iald (z := r) (v := σ0.2.1 9 r) dX12_dropAll_24 (show mT[7]? = some (9, 0, 13) from rfl) (by omega) (by omega) (by decide) (ra_F hF (by decide) (rfl)) ?_
    have g1 := RG.a hR0 9 (r)
    refine tm_icmp_ge (tgt := 93) dX12_dropAll_25 (by decide) ⟨by omega, by omega⟩ ⟨by omega, by omega⟩ (fun h2 => ?_) (fun h2 => ?_)
    · exact tm_sub [0, 1, 2, 3, 4] rfl (hx_93 (w) (t) (k) σ (Fr.rfl.trans (Fr.sub hF (by decide) (by decide) (by decide))) hR (by omega) (by rw [show σ0.2.1 9 r = k by omega]; exact hlp))
    · refine tm_aload_n dX12_dropAll_28 rfl 3 rfl ?_
      refine tm_get (k := 47) (v := .ref (b + 1 + 25)) lay_12 dX12_dropAll_29 (by decide) fl12_91 rfl ?_
      refine tm_iload dX12_dropAll_32 0 rfl ?_
      refine tm_zald (z := k) (v := σ0.2.1 47 k) dX12_dropAll_34 (show mT[25]? = some (47, 2, 221) from rfl) (by omega) (by omega) (by decide) (ra_F hF (by decide) (rfl)) ?_
      have g3 := RG.a hR0 47 (k)
      have := hbo (k)
      refine tm_if_eq (tgt := 61) dX12_dropAll_35 (by decide) ⟨by omega, by omega⟩ (fun h4 => ?_) (fun h4 => ?_)
      · refine tm_iload_n dX12_dropAll_61 rfl 2 rfl ?_
        refine tm_aload_n dX12_dropAll_62 rfl 3 rfl ?_
        refine tm_get (k := 3) (v := .ref (b + 1 + 1)) lay_12 dX12_dropAll_63 (by decide) fl12_13 rfl ?_
        refine tm_aload_n dX12_dropAll_66 rfl 3 rfl ?_
        refine tm_iload_n dX12_dropAll_67 rfl 4 rfl ?_
        refine tm_iload dX12_dropAll_68 0 rfl ?_
        refine tm_callV (M := m_X12_dropAll) (pc := 70) (ix := 203) (M' := m_X12_at) (As := [.int (iI r), .int (iI k)]) (rest := [.ref (b + 1 + 1), .int (iI w)]) dX12_dropAll_70 ok_X12_at im_X12_at se_X12_at ml12_203 np_X12_at rfl rfl (Nat.le_of_ble_eq_true rfl) (Nat.le_of_ble_eq_true rfl) rfl (c_X12_at (d) (σ := σ) (x := r) (k := k) ) (fun r5 σ6 hp => ?_)
        obtain ⟨v7, rfl, rfl, f8⟩ := hp
        subst f8
        show Tm _ _ 73 b σ [(4, .int (iI k)), (3, .int (iI t)), (2, .int (iI w)), (0, .ref b), (1, .int (iI r))] [.int (iI (220 * r + k)), .ref (b + 1 + 1), .int (iI w)] _
        refine tm_iald (z := 220 * r + k) (v := σ.2.1 3 (220 * r + k)) dX12_dropAll_73 (show mT[1]? = some (3, 0, 2860) from rfl) (by omega) (by omega) (by decide) (rfl) ?_
        have g9 := RG.a hR 3 (220 * r + k)
        refine tm_callS (M := m_X12_dropAll) (pc := 74) (ix := 401) (M' := m_X12_isAct) (As := [.int (iI (σ.2.1 3 (220 * r + k)))]) (rest := [.int (iI w)]) dX12_dropAll_74 ok_X12_isAct stt_X12_isAct ml12_401 np_X12_isAct rfl (Nat.le_of_ble_eq_true rfl) (Nat.le_of_ble_eq_true rfl) rfl (c_X12_isAct (d) (σ := σ) (x := σ.2.1 3 (220 * r + k)) (by omega)) (fun r10 σ11 hp => ?_)
        obtain ⟨v12, rfl, rfl, f13, f14⟩ := hp
        show Tm _ _ 77 b σ [(4, .int (iI k)), (3, .int (iI t)), (2, .int (iI w)), (0, .ref b), (1, .int (iI r))] [.int (iI v12), .int (iI w)] _
        refine tm_if_eq (tgt := 84) dX12_dropAll_77 (by decide) ⟨by omega, by omega⟩ (fun h15 => ?_) (fun h15 => ?_)
        · refine tm_iconst dX12_dropAll_84 ?_
          refine tm_iadd dX12_dropAll_85 ?_
          refine tm_istore_n (L' := [(2, .int (iI (w + 0))), (4, .int (iI k)), (3, .int (iI t)), (0, .ref b), (1, .int (iI r))]) dX12_dropAll_86 rfl (by decide) rfl ?_
          refine tm_iinc (q0 := 1) (L' := [(4, .int (iI (k + 1))), (2, .int (iI (w + 0))), (3, .int (iI t)), (0, .ref b), (1, .int (iI r))]) dX12_dropAll_87 rfl (by decide) rfl ?_
          refine tm_goto (tgt := 17) dX12_dropAll_90 (by decide) ?_
          exact tm_sub [0, 2, 1, 3, 4] rfl (ih _ (by omega) (w + 0) (t) (k + 1) σ (Fr.rfl.trans (Fr.sub hF (by decide) (by decide) (by decide))) hR (by omega) (hlp.skip (by omega)) rfl)
        · refine tm_iconst dX12_dropAll_80 ?_
          refine tm_goto (tgt := 85) dX12_dropAll_81 (by decide) ?_
          refine tm_iadd dX12_dropAll_85 ?_
          refine tm_istore_n (L' := [(2, .int (iI (w + 1))), (4, .int (iI k)), (3, .int (iI t)), (0, .ref b), (1, .int (iI r))]) dX12_dropAll_86 rfl (by decide) rfl ?_
          refine tm_iinc (q0 := 1) (L' := [(4, .int (iI (k + 1))), (2, .int (iI (w + 1))), (3, .int (iI t)), (0, .ref b), (1, .int (iI r))]) dX12_dropAll_87 rfl (by decide) rfl ?_
          refine tm_goto (tgt := 17) dX12_dropAll_90 (by decide) ?_
          exact tm_sub [0, 2, 1, 3, 4] rfl (ih _ (by omega) (w + 1) (t) (k + 1) σ (Fr.rfl.trans (Fr.sub hF (by decide) (by decide) (by decide))) hR (by omega) (hlp.skip (by omega)) rfl)
      · refine tm_aload_n dX12_dropAll_38 rfl 3 rfl ?_
        refine tm_aload_n dX12_dropAll_39 rfl 3 rfl ?_
        refine tm_iload_n dX12_dropAll_40 rfl 4 rfl ?_
        refine tm_iload dX12_dropAll_41 0 rfl ?_
        refine tm_callV (M := m_X12_dropAll) (pc := 43) (ix := 203) (M' := m_X12_at) (As := [.int (iI r), .int (iI k)]) (rest := [.ref b]) dX12_dropAll_43 ok_X12_at im_X12_at se_X12_at ml12_203 np_X12_at rfl rfl (Nat.le_of_ble_eq_true rfl) (Nat.le_of_ble_eq_true rfl) rfl (c_X12_at (d) (σ := σ) (x := r) (k := k) ) (fun r16 σ17 hp => ?_)
        obtain ⟨v18, rfl, rfl, f19⟩ := hp
        subst f19
        show Tm _ _ 46 b σ [(4, .int (iI k)), (3, .int (iI t)), (2, .int (iI w)), (0, .ref b), (1, .int (iI r))] [.int (iI (220 * r + k)), .ref b] _
        refine tm_aload_n dX12_dropAll_46 rfl 3 rfl ?_
        refine tm_iload_n dX12_dropAll_47 rfl 4 rfl ?_
        refine tm_iload_n dX12_dropAll_48 rfl 1 rfl ?_
        refine tm_callV (M := m_X12_dropAll) (pc := 49) (ix := 203) (M' := m_X12_at) (As := [.int (iI r), .int (iI t)]) (rest := [.int (iI (220 * r + k)), .ref b]) dX12_dropAll_49 ok_X12_at im_X12_at se_X12_at ml12_203 np_X12_at rfl rfl (Nat.le_of_ble_eq_true rfl) (Nat.le_of_ble_eq_true rfl) rfl (c_X12_at (d) (σ := σ) (x := r) (k := t) ) (fun r20 σ21 hp => ?_)
        obtain ⟨v22, rfl, rfl, f23⟩ := hp
        subst f23
        show Tm _ _ 52 b σ [(4, .int (iI k)), (3, .int (iI t)), (2, .int (iI w)), (0, .ref b), (1, .int (iI r))] [.int (iI (220 * r + t)), .int (iI (220 * r + k)), .ref b] _
        refine tm_callV (M := m_X12_dropAll) (pc := 52) (ix := 394) (M' := m_X12_copyItem) (As := [.int (iI (220 * r + k)), .int (iI (220 * r + t))]) (rest := []) dX12_dropAll_52 ok_X12_copyItem im_X12_copyItem se_X12_copyItem ml12_394 np_X12_copyItem rfl rfl (Nat.le_of_ble_eq_true rfl) (Nat.le_of_ble_eq_true rfl) rfl (c_X12_copyItem (d) (σ := σ) (f := 220 * r + k) (t := 220 * r + t) (by omega) (by omega)) (fun r24 σ25 hp => ?_)
        obtain ⟨rfl, f27⟩ := hp
        subst f27
        show Tm _ _ 55 b (fCopy (220 * r + k) (220 * r + t) σ) [(4, .int (iI k)), (3, .int (iI t)), (2, .int (iI w)), (0, .ref b), (1, .int (iI r))] [] _
        refine tm_iinc (q0 := 1) (L' := [(3, .int (iI (t + 1))), (4, .int (iI k)), (2, .int (iI w)), (0, .ref b), (1, .int (iI r))]) dX12_dropAll_55 rfl (by decide) rfl ?_
        refine tm_goto (tgt := 87) dX12_dropAll_58 (by decide) ?_
        refine tm_iinc (q0 := 1) (L' := [(4, .int (iI (k + 1))), (3, .int (iI (t + 1))), (2, .int (iI w)), (0, .ref b), (1, .int (iI r))]) dX12_dropAll_87 rfl (by decide) rfl ?_
        refine tm_goto (tgt := 17) dX12_dropAll_90 (by decide) ?_
        exact tm_sub [0, 1, 2, 3, 4] rfl (ih _ (by omega) (w) (t + 1) (k + 1) (fCopy (220 * r + k) (220 * r + t) σ) ((Fr.rfl.trans (Fr.sub hF (by decide) (by decide) (by decide))).trans (Fr.sub fCopy_fr (by decide) (by decide) (by decide))) (hR.copy) (by omega) (hlp.keep (by omega) (hok k (by omega) (by omega)) (by omega)) rfl)
theorem ml12_478 : Cond.methodLink RX12 478 yX12_rebind ∈ pWW := pw9 (List.mem_of_getElem? (i := 145) rfl) rfl
theorem ml12_481 : Cond.methodLink RX12 481 yX12_takeOut ∈ pWW := pw9 (List.mem_of_getElem? (i := 149) rfl) rfl
theorem dX12_dropAll_126 : decode cX12_dropAll 126 = .ok (.iload 5, 2) := by decide +kernel
theorem dX12_dropAll_128 : decode cX12_dropAll 128 = .ok (.ifCond .lt 71, 3) := by decide +kernel
theorem dX12_dropAll_131 : decode cX12_dropAll 131 = .ok (.iload 4, 2) := by decide +kernel
theorem dX12_dropAll_133 : decode cX12_dropAll 133 = .ok (.ifCond .ne 66, 3) := by decide +kernel
theorem dX12_dropAll_136 : decode cX12_dropAll 136 = .ok (.aload_n 0, 1) := by decide +kernel
theorem dX12_dropAll_137 : decode cX12_dropAll 137 = .ok (.iload_n 1, 1) := by decide +kernel
theorem dX12_dropAll_138 : decode cX12_dropAll 138 = .ok (.iload 5, 2) := by decide +kernel
theorem dX12_dropAll_140 : decode cX12_dropAll 140 = .ok (.invokevirtual 203, 3) := by decide +kernel
theorem dX12_dropAll_143 : decode cX12_dropAll 143 = .ok (.istore 6, 2) := by decide +kernel
theorem dX12_dropAll_145 : decode cX12_dropAll 145 = .ok (.aload_n 0, 1) := by decide +kernel
theorem dX12_dropAll_146 : decode cX12_dropAll 146 = .ok (.getfield 13, 3) := by decide +kernel
theorem dX12_dropAll_149 : decode cX12_dropAll 149 = .ok (.iload 6, 2) := by decide +kernel
theorem dX12_dropAll_151 : decode cX12_dropAll 151 = .ok (.iaload, 1) := by decide +kernel
theorem dX12_dropAll_152 : decode cX12_dropAll 152 = .ok (.iconst 5, 1) := by decide +kernel
theorem dX12_dropAll_153 : decode cX12_dropAll 153 = .ok (.if_icmp .gt 40, 3) := by decide +kernel
theorem dX12_dropAll_193 : decode cX12_dropAll 193 = .ok (.iinc 5 (-1), 3) := by decide +kernel
theorem dX12_dropAll_196 : decode cX12_dropAll 196 = .ok (.goto (-70), 3) := by decide +kernel
theorem dX12_dropAll_156 : decode cX12_dropAll 156 = .ok (.aload_n 0, 1) := by decide +kernel
theorem dX12_dropAll_157 : decode cX12_dropAll 157 = .ok (.iload_n 1, 1) := by decide +kernel
theorem dX12_dropAll_158 : decode cX12_dropAll 158 = .ok (.iload 5, 2) := by decide +kernel
theorem dX12_dropAll_160 : decode cX12_dropAll 160 = .ok (.aload_n 0, 1) := by decide +kernel
theorem dX12_dropAll_161 : decode cX12_dropAll 161 = .ok (.getfield 17, 3) := by decide +kernel
theorem dX12_dropAll_164 : decode cX12_dropAll 164 = .ok (.iload 6, 2) := by decide +kernel
theorem dX12_dropAll_166 : decode cX12_dropAll 166 = .ok (.iaload, 1) := by decide +kernel
theorem dX12_dropAll_167 : decode cX12_dropAll 167 = .ok (.invokevirtual 433, 3) := by decide +kernel
theorem dX12_dropAll_170 : decode cX12_dropAll 170 = .ok (.ifCond .ne 23, 3) := by decide +kernel
theorem dX12_dropAll_173 : decode cX12_dropAll 173 = .ok (.aload_n 0, 1) := by decide +kernel
theorem dX12_dropAll_174 : decode cX12_dropAll 174 = .ok (.iload_n 1, 1) := by decide +kernel
theorem dX12_dropAll_175 : decode cX12_dropAll 175 = .ok (.iload 5, 2) := by decide +kernel
theorem dX12_dropAll_177 : decode cX12_dropAll 177 = .ok (.invokevirtual 478, 3) := by decide +kernel
theorem dX12_dropAll_180 : decode cX12_dropAll 180 = .ok (.aload_n 0, 1) := by decide +kernel
theorem dX12_dropAll_181 : decode cX12_dropAll 181 = .ok (.iload_n 1, 1) := by decide +kernel
theorem dX12_dropAll_182 : decode cX12_dropAll 182 = .ok (.iload 5, 2) := by decide +kernel
theorem dX12_dropAll_184 : decode cX12_dropAll 184 = .ok (.invokevirtual 481, 3) := by decide +kernel
theorem dX12_dropAll_187 : decode cX12_dropAll 187 = .ok (.iinc 2 1, 3) := by decide +kernel
theorem dX12_dropAll_190 : decode cX12_dropAll 190 = .ok (.iconst 1, 1) := by decide +kernel
theorem dX12_dropAll_191 : decode cX12_dropAll 191 = .ok (.istore 4, 2) := by decide +kernel
set_option maxHeartbeats 1000000 in
set_option maxRecDepth 20000 in
theorem l_drop3 (d : Nat) {b : Nat} {σ0 : MS} {r : Int} {F : Int} {n0 : Int} {post : Option Value → MS → Prop} (hr : 0 ≤ r ∧ r < 6) (hR0 : RG σ0) (hit : ITM σ0) (hpar : PAR σ0) (hx_199 : ∀ (w : Int) (ce : Int) (k : Int) (σ : MS) , (Fr [] [3, 4, 5, 6, 7, 8, 9, 46, 47, 59] [] σ0 σ) → (RG σ) → ((ce = 0 ∨ ce = 1) ∧ σ.2.1 9 r + ce = n0 ∧ 0 ≤ w ∧ w + n0 ≤ 440 + ce) → (OKS σ F r) → (CODE σ r) → (LEX σ r) → (LBM σ r) → (XO r σ0 σ) → (1 ≤ σ.2.1 9 r) → (∀ j, j ≠ r → σ.2.1 9 j = σ0.2.1 9 j) → (LAB σ) → (BO 59 σ) → (BO 47 σ) → Tm (d + 7) m_X12_dropAll 199 b σ [(5, .int (iI k)), (4, .int (iI ce)), (2, .int (iI w)), (0, .ref b), (1, .int (iI r))] [] post) : ∀ (n : Nat) (w : Int) (ce : Int) (k : Int) (σ : MS) , (Fr [] [3, 4, 5, 6, 7, 8, 9, 46, 47, 59] [] σ0 σ) → (RG σ) → ((ce = 0 ∨ ce = 1) ∧ -1 ≤ k ∧ k < n0 ∧ n0 ≤ 220 ∧ σ.2.1 9 r + ce = n0 ∧ 0 ≤ w ∧ w + n0 ≤ 440 + ce) → (ce = 0 → TGT σ r) → (OKS σ F r) → (CODE σ r) → (LEX σ r) → (LBM σ r) → (XO r σ0 σ) → (1 ≤ σ.2.1 9 r) → (∀ j, j ≠ r → σ.2.1 9 j = σ0.2.1 9 j) → (LAB σ) → (BO 59 σ) → (BO 47 σ) → (k + 1).toNat = n → Tm (d + 7) m_X12_dropAll 126 b σ [(5, .int (iI k)), (4, .int (iI ce)), (2, .int (iI w)), (0, .ref b), (1, .int (iI r))] [] post := by
  intro n
  induction n using Nat.strongRecOn with
  | _ n ih =>
    intro w ce k σ hF hR h0 htg hok hcd hlex hlm hxo hn h9 hl hbl hbo hm
    have hit1 : ITM σ := fun j a c => by
          by_cases q : j = r
          · subst q; omega
          · rw [h9 j q]; exact hit j a c
    have hpar1 := hpar.fr hF (by decide)
    refine tm_iload dX12_dropAll_126 0 rfl ?_
    refine tm_if_lt (tgt := 199) dX12_dropAll_128 (by decide) ⟨by omega, by omega⟩ (fun h1 => ?_) (fun h1 => ?_)
    · exact tm_sub [0, 1, 2, 3, 4] rfl (hx_199 (w) (ce) (k) σ (Fr.rfl.trans (Fr.sub hF (by decide) (by decide) (by decide))) hR (by omega) hok hcd hlex hlm hxo hn h9 hl hbl hbo)
    · refine tm_iload dX12_dropAll_131 1 rfl ?_
      refine tm_if_ne (tgt := 199) dX12_dropAll_133 (by decide) ⟨by omega, by omega⟩ (fun h2 => ?_) (fun h2 => ?_)
      · exact tm_sub [0, 1, 2, 3, 4] rfl (hx_199 (w) (ce) (k) σ (Fr.rfl.trans (Fr.sub hF (by decide) (by decide) (by decide))) hR (by omega) hok hcd hlex hlm hxo hn h9 hl hbl hbo)
      · refine tm_aload_n dX12_dropAll_136 rfl 3 rfl ?_
        refine tm_iload_n dX12_dropAll_137 rfl 4 rfl ?_
        refine tm_iload dX12_dropAll_138 0 rfl ?_
        refine tm_callV (M := m_X12_dropAll) (pc := 140) (ix := 203) (M' := m_X12_at) (As := [.int (iI r), .int (iI k)]) (rest := []) dX12_dropAll_140 ok_X12_at im_X12_at se_X12_at ml12_203 np_X12_at rfl rfl (Nat.le_of_ble_eq_true rfl) (Nat.le_of_ble_eq_true rfl) rfl (c_X12_at (d + 5) (σ := σ) (x := r) (k := k) ) (fun r3 σ4 hp => ?_)
        obtain ⟨v5, rfl, rfl, f6⟩ := hp
        subst f6
        show Tm _ _ 143 b σ [(5, .int (iI k)), (4, .int (iI ce)), (2, .int (iI w)), (0, .ref b), (1, .int (iI r))] [.int (iI (220 * r + k))] _
        refine tm_istore (L' := [(6, .int (iI (220 * r + k))), (5, .int (iI k)), (4, .int (iI ce)), (2, .int (iI w)), (0, .ref b), (1, .int (iI r))]) dX12_dropAll_143 (by decide) rfl ?_
        have hk1 := hok.kind (k := k) (by omega) (by omega)
        refine tm_aload_n dX12_dropAll_145 rfl 4 rfl ?_
        refine tm_get (k := 3) (v := .ref (b + 1 + 1)) lay_12 dX12_dropAll_146 (by decide) fl12_13 rfl ?_
        refine tm_iload dX12_dropAll_149 0 rfl ?_
        refine tm_iald (z := 220 * r + k) (v := σ.2.1 3 (220 * r + k)) dX12_dropAll_151 (show mT[1]? = some (3, 0, 2860) from rfl) (by omega) (by omega) (by decide) (rfl) ?_
        have g7 := RG.a hR 3 (220 * r + k)
        refine tm_iconst dX12_dropAll_152 ?_
        refine tm_icmp_gt (tgt := 193) dX12_dropAll_153 (by decide) ⟨by omega, by omega⟩ ⟨by decide, by decide⟩ (fun h8 => ?_) (fun h8 => ?_)
        · refine tm_iinc (q0 := 1) (L' := [(5, .int (iI (k + (-1)))), (6, .int (iI (220 * r + k))), (4, .int (iI ce)), (2, .int (iI w)), (0, .ref b), (1, .int (iI r))]) dX12_dropAll_193 rfl (by decide) rfl ?_
          refine tm_goto (tgt := 126) dX12_dropAll_196 (by decide) ?_
          exact tm_sub [0, 2, 3, 4, 5] rfl (ih _ (by omega) (w) (ce) (k + (-1)) σ (Fr.rfl.trans (Fr.sub hF (by decide) (by decide) (by decide))) hR (by omega) htg hok hcd hlex hlm hxo hn h9 hl hbl hbo rfl)
        · have hkd := hok.dest (k := k) (by omega) (by omega) (by omega)
          have htg1 := htg (by omega)
          refine tm_aload_n dX12_dropAll_156 rfl 4 rfl ?_
          refine tm_iload_n dX12_dropAll_157 rfl 5 rfl ?_
          refine tm_iload dX12_dropAll_158 1 rfl ?_
          refine tm_aload_n dX12_dropAll_160 rfl 4 rfl ?_
          refine tm_get (k := 4) (v := .ref (b + 1 + 2)) lay_12 dX12_dropAll_161 (by decide) fl12_17 rfl ?_
          refine tm_iload dX12_dropAll_164 0 rfl ?_
          refine tm_iald (z := 220 * r + k) (v := σ.2.1 4 (220 * r + k)) dX12_dropAll_166 (show mT[2]? = some (4, 0, 2860) from rfl) (by omega) (by omega) (by decide) (rfl) ?_
          have g9 := RG.a hR 4 (220 * r + k)
          refine tm_callV (M := m_X12_dropAll) (pc := 167) (ix := 433) (M' := m_X12_livesBehind) (As := [.int (iI r), .int (iI k), .int (iI (σ.2.1 4 (220 * r + k)))]) (rest := []) dX12_dropAll_167 ok_X12_livesBehind im_X12_livesBehind se_X12_livesBehind ml12_433 np_X12_livesBehind rfl rfl (Nat.le_of_ble_eq_true rfl) (Nat.le_of_ble_eq_true rfl) rfl (c2_X12_livesBehind (d + 3) (σ := σ) (r := r) (k := k) (g := σ.2.1 4 (220 * r + k)) (by omega) hR hit1 hok.jmp hbl hl (by omega) (by omega)) (fun r10 σ11 hp => ?_)
          obtain ⟨v12, rfl, rfl, f13, f14⟩ := hp
          show Tm _ _ 170 b σ [(6, .int (iI (220 * r + k))), (5, .int (iI k)), (4, .int (iI ce)), (2, .int (iI w)), (0, .ref b), (1, .int (iI r))] [.int (iI v12)] _
          refine tm_if_ne (tgt := 193) dX12_dropAll_170 (by decide) ⟨by omega, by omega⟩ (fun h15 => ?_) (fun h15 => ?_)
          · refine tm_iinc (q0 := 1) (L' := [(5, .int (iI (k + (-1)))), (6, .int (iI (220 * r + k))), (4, .int (iI ce)), (2, .int (iI w)), (0, .ref b), (1, .int (iI r))]) dX12_dropAll_193 rfl (by decide) rfl ?_
            refine tm_goto (tgt := 126) dX12_dropAll_196 (by decide) ?_
            exact tm_sub [0, 2, 3, 4, 5] rfl (ih _ (by omega) (w) (ce) (k + (-1)) σ (Fr.rfl.trans (Fr.sub hF (by decide) (by decide) (by decide))) hR (by omega) htg hok hcd hlex hlm hxo hn h9 hl hbl hbo rfl)
          · refine tm_aload_n dX12_dropAll_173 rfl 4 rfl ?_
            refine tm_iload_n dX12_dropAll_174 rfl 5 rfl ?_
            refine tm_iload dX12_dropAll_175 1 rfl ?_
            refine tm_callV (M := m_X12_dropAll) (pc := 177) (ix := 478) (M' := m_X12_rebind) (As := [.int (iI r), .int (iI k)]) (rest := []) dX12_dropAll_177 ok_X12_rebind im_X12_rebind se_X12_rebind ml12_478 np_X12_rebind rfl rfl (Nat.le_of_ble_eq_true rfl) (Nat.le_of_ble_eq_true rfl) rfl (c_X12_rebind (d) (σ := σ) (r := r) (k0 := k) (F := F) (by omega) hR hit1 hpar1 hok htg1 hbo (by omega) (by omega)) (fun r16 σ17 hp => ?_)
            obtain ⟨rfl, f19, f20, f21, f22, f23⟩ := hp
            show Tm _ _ 180 b σ17 [(6, .int (iI (220 * r + k))), (5, .int (iI k)), (4, .int (iI ce)), (2, .int (iI w)), (0, .ref b), (1, .int (iI r))] [] _
            have f1 := f19
            have hok2 := f21
            have hxo2 := hxo.trans f22
            have hbo2 := f23
            have e9 : σ17.2.1 9 = σ.2.1 9 := f1.2.1 9 (by decide)
            have e3 : σ17.2.1 3 = σ.2.1 3 := f1.2.1 3 (by decide)
            refine tm_aload_n dX12_dropAll_180 rfl 4 rfl ?_
            refine tm_iload_n dX12_dropAll_181 rfl 5 rfl ?_
            refine tm_iload dX12_dropAll_182 1 rfl ?_
            refine tm_callV (M := m_X12_dropAll) (pc := 184) (ix := 481) (M' := m_X12_takeOut) (As := [.int (iI r), .int (iI k)]) (rest := []) dX12_dropAll_184 ok_X12_takeOut im_X12_takeOut se_X12_takeOut ml12_481 np_X12_takeOut rfl rfl (Nat.le_of_ble_eq_true rfl) (Nat.le_of_ble_eq_true rfl) rfl (c_X12_takeOut (d + 4) (σ := σ17) (r := r) (k := k) (by omega) f20 (hit1.fr f1 (by decide)) (by rw [e9]; omega)) (fun r24 σ25 hp => ?_)
            obtain ⟨rfl, f27, f28, f29, f30, f31, f32, f33⟩ := hp
            show Tm _ _ 187 b σ25 [(6, .int (iI (220 * r + k))), (5, .int (iI k)), (4, .int (iI ce)), (2, .int (iI w)), (0, .ref b), (1, .int (iI r))] [] _
            have f2 := f27
            have hfin := out_fin (k := k) (by rw [e9]; omega) (by rw [e3]; omega) hok2 (hcd.fr f1 (by decide) (by decide)) (hlex.fr f1 (by decide)) (hlm.fr f1 (by decide)) f2 f30 f31 f32
            have hxo3 := hxo2.trans f29
            have h93 : σ25.2.1 9 r = σ.2.1 9 r - 1 := by rw [f32, e9]
            have h94 : ∀ j, j ≠ r → σ25.2.1 9 j = σ0.2.1 9 j := fun j hj => by rw [f33 j hj, e9]; exact h9 j hj
            refine tm_iinc (q0 := 3) (L' := [(2, .int (iI (w + 1))), (6, .int (iI (220 * r + k))), (5, .int (iI k)), (4, .int (iI ce)), (0, .ref b), (1, .int (iI r))]) dX12_dropAll_187 rfl (by decide) rfl ?_
            refine tm_iconst dX12_dropAll_190 ?_
            refine tm_istore (L' := [(4, .int (iI 1)), (2, .int (iI (w + 1))), (6, .int (iI (220 * r + k))), (5, .int (iI k)), (0, .ref b), (1, .int (iI r))]) dX12_dropAll_191 (by decide) rfl ?_
            refine tm_iinc (q0 := 3) (L' := [(5, .int (iI (k + (-1)))), (4, .int (iI 1)), (2, .int (iI (w + 1))), (6, .int (iI (220 * r + k))), (0, .ref b), (1, .int (iI r))]) dX12_dropAll_193 rfl (by decide) rfl ?_
            refine tm_goto (tgt := 126) dX12_dropAll_196 (by decide) ?_
            exact tm_sub [0, 1, 2, 4, 5] rfl (ih _ (by omega) (w + 1) (1) (k + (-1)) σ25 (((Fr.rfl.trans (Fr.sub hF (by decide) (by decide) (by decide))).trans (Fr.sub f19 (by decide) (by decide) (by decide))).trans (Fr.sub f27 (by decide) (by decide) (by decide))) f28 (by omega) (fun q => absurd q (by decide)) hfin.2.2.2.2 hfin.1 hfin.2.2.1 hfin.2.2.2.1 hxo3 hfin.2.1 h94 ((hl.fr f1 (by decide)).fr f2 (by decide)) ((hbl.fr f1 (by decide)).fr f2 (by decide)) (hbo2.fr f2 (by decide)) rfl)
theorem dX12_dropAll_103 : decode cX12_dropAll 103 = .ok (.iload 4, 2) := by decide +kernel
theorem dX12_dropAll_105 : decode cX12_dropAll 105 = .ok (.ifCond .eq 97, 3) := by decide +kernel
theorem dX12_dropAll_108 : decode cX12_dropAll 108 = .ok (.aload_n 0, 1) := by decide +kernel
theorem dX12_dropAll_109 : decode cX12_dropAll 109 = .ok (.iload_n 1, 1) := by decide +kernel
theorem dX12_dropAll_110 : decode cX12_dropAll 110 = .ok (.invokevirtual 475, 3) := by decide +kernel
theorem dX12_dropAll_113 : decode cX12_dropAll 113 = .ok (.iconst 0, 1) := by decide +kernel
theorem dX12_dropAll_114 : decode cX12_dropAll 114 = .ok (.istore 4, 2) := by decide +kernel
theorem dX12_dropAll_116 : decode cX12_dropAll 116 = .ok (.aload_n 0, 1) := by decide +kernel
theorem dX12_dropAll_117 : decode cX12_dropAll 117 = .ok (.getfield 32, 3) := by decide +kernel
theorem dX12_dropAll_120 : decode cX12_dropAll 120 = .ok (.iload_n 1, 1) := by decide +kernel
theorem dX12_dropAll_121 : decode cX12_dropAll 121 = .ok (.iaload, 1) := by decide +kernel
theorem dX12_dropAll_122 : decode cX12_dropAll 122 = .ok (.iconst 1, 1) := by decide +kernel
theorem dX12_dropAll_123 : decode cX12_dropAll 123 = .ok (.isub, 1) := by decide +kernel
theorem dX12_dropAll_124 : decode cX12_dropAll 124 = .ok (.istore 5, 2) := by decide +kernel
theorem dX12_dropAll_199 : decode cX12_dropAll 199 = .ok (.goto (-96), 3) := by decide +kernel
set_option maxHeartbeats 1000000 in
set_option maxRecDepth 20000 in
theorem l_drop2 (d : Nat) {b : Nat} {σ0 : MS} {r : Int} {F : Int} {post : Option Value → MS → Prop} (hr : 0 ≤ r ∧ r < 6) (hR0 : RG σ0) (hit : ITM σ0) (hpar : PAR σ0) (hx_202 : ∀ (w : Int) (ce : Int) (σ : MS) , (Fr [] [3, 4, 5, 6, 7, 8, 9, 46, 47, 59] [] σ0 σ) → (RG σ) → (0 ≤ w ∧ w ≤ 440 ∧ σ.2.1 9 r ≤ σ0.2.1 9 r) → (OKS σ F r) → (CODE σ r) → (LEX σ r) → (LBM σ r) → (XO r σ0 σ) → (1 ≤ σ.2.1 9 r) → (∀ j, j ≠ r → σ.2.1 9 j = σ0.2.1 9 j) → (LAB σ) → (BO 59 σ) → (BO 47 σ) → Tm (d + 7) m_X12_dropAll 202 b σ [(4, .int (iI ce)), (2, .int (iI w)), (0, .ref b), (1, .int (iI r))] [] post) : ∀ (n : Nat) (w : Int) (ce : Int) (σ : MS) , (Fr [] [3, 4, 5, 6, 7, 8, 9, 46, 47, 59] [] σ0 σ) → (RG σ) → ((ce = 0 ∨ ce = 1) ∧ σ.2.1 9 r ≤ σ0.2.1 9 r ∧ σ0.2.1 9 r ≤ 220 ∧ 0 ≤ w ∧ w + σ.2.1 9 r ≤ 440) → (OKS σ F r) → (CODE σ r) → (LEX σ r) → (LBM σ r) → (XO r σ0 σ) → (1 ≤ σ.2.1 9 r) → (∀ j, j ≠ r → σ.2.1 9 j = σ0.2.1 9 j) → (LAB σ) → (BO 59 σ) → (BO 47 σ) → (2 * σ.2.1 9 r + ce).toNat = n → Tm (d + 7) m_X12_dropAll 103 b σ [(4, .int (iI ce)), (2, .int (iI w)), (0, .ref b), (1, .int (iI r))] [] post := by
  intro n
  induction n using Nat.strongRecOn with
  | _ n ih =>
    intro w ce σ hF hR h0 hok hcd hlex hlm hxo hn h9 hl hbl hbo hm
    have hit1 : ITM σ := fun j a c => by
          by_cases q : j = r
          · subst q; omega
          · rw [h9 j q]; exact hit j a c
    have hpar1 := hpar.fr hF (by decide)
    refine tm_iload dX12_dropAll_103 0 rfl ?_
    refine tm_if_eq (tgt := 202) dX12_dropAll_105 (by decide) ⟨by omega, by omega⟩ (fun h1 => ?_) (fun h1 => ?_)
    · exact tm_sub [0, 1, 2, 3] rfl (hx_202 (w) (ce) σ (Fr.rfl.trans (Fr.sub hF (by decide) (by decide) (by decide))) hR (by omega) hok hcd hlex hlm hxo hn h9 hl hbl hbo)
    · refine tm_aload_n dX12_dropAll_108 rfl 2 rfl ?_
      refine tm_iload_n dX12_dropAll_109 rfl 3 rfl ?_
      refine tm_callV (M := m_X12_dropAll) (pc := 110) (ix := 475) (M' := m_X12_findLives) (As := [.int (iI r)]) (rest := []) dX12_dropAll_110 ok_X12_findLives im_X12_findLives se_X12_findLives ml12_475 np_X12_findLives rfl rfl (Nat.le_of_ble_eq_true rfl) (Nat.le_of_ble_eq_true rfl) rfl (c2_X12_findLives (d + 1) (σ := σ) (r := r) (F := F) (by omega) hR hit1 hpar1 hok hl hbl hlex) (fun r2 σ3 hp => ?_)
      obtain ⟨rfl, f5, f6, f7, f8, f9, f10⟩ := hp
      show Tm _ _ 113 b σ3 [(4, .int (iI ce)), (2, .int (iI w)), (0, .ref b), (1, .int (iI r))] [] _
      have f1 := f5
      have hl1 := f7
      have hbl1 := f8
      have htg1 := f9
      have e9 : σ3.2.1 9 = σ.2.1 9 := f1.2.1 9 (by decide)
      refine tm_iconst dX12_dropAll_113 ?_
      refine tm_istore (L' := [(4, .int (iI 0)), (2, .int (iI w)), (0, .ref b), (1, .int (iI r))]) dX12_dropAll_114 (by decide) rfl ?_
      refine tm_aload_n dX12_dropAll_116 rfl 2 rfl ?_
      refine tm_get (k := 9) (v := .ref (b + 1 + 7)) lay_12 dX12_dropAll_117 (by decide) fl12_32 rfl ?_
      refine tm_iload_n dX12_dropAll_120 rfl 3 rfl ?_
      refine tm_iald (z := r) (v := σ.2.1 9 r) dX12_dropAll_121 (show mT[7]? = some (9, 0, 13) from rfl) (by omega) (by omega) (by decide) (ra_F f5 (by decide) (rfl)) ?_
      have g11 := RG.a hR 9 (r)
      refine tm_iconst dX12_dropAll_122 ?_
      refine tm_isub dX12_dropAll_123 ?_
      refine tm_istore (L' := [(5, .int (iI ((σ.2.1 9 r) - 1))), (4, .int (iI 0)), (2, .int (iI w)), (0, .ref b), (1, .int (iI r))]) dX12_dropAll_124 (by decide) rfl ?_
      refine tm_sub [0, 1, 2, 3, 4] rfl (l_drop3 (d) (σ0 := σ3) (r := r) (F := F) (n0 := (σ.2.1 9 r)) hr f6 (hit1.fr f1 (by decide)) (hpar1.fr f1 (by decide)) (fun w29 ce30 k31 σ32 F16 R17 f18 f19 f20 f21 f22 f23 f24 f25 f26 f27 f28 => ?_) _ (w) (0) ((σ.2.1 9 r) - 1) σ3 Fr.rfl f6 (by rw [e9]; omega) (fun _ => htg1) (hok.fr f1 (by decide)) (hcd.fr f1 (by decide) (by decide)) (hlex.fr f1 (by decide)) (hlm.fr f1 (by decide)) XO.rfl (by rw [e9]; exact hn) (fun _ _ => rfl) hl1 hbl1 (hbo.fr f1 (by decide)) rfl)
      show Tm _ _ 199 b σ32 [(5, .int (iI k31)), (4, .int (iI ce30)), (2, .int (iI w29)), (0, .ref b), (1, .int (iI r))] [] _
      refine tm_goto (tgt := 103) dX12_dropAll_199 (by decide) ?_
      exact tm_sub [1, 2, 3, 4] rfl (ih _ (by omega) (w29) (ce30) σ32 (((Fr.rfl.trans (Fr.sub hF (by decide) (by decide) (by decide))).trans (Fr.sub f5 (by decide) (by decide) (by decide))).trans (Fr.sub F16 (by decide) (by decide) (by decide))) R17 (by omega) f19 f20 f21 f22 ((hxo.trans (XO.fr f1 (by decide))).trans f23) f24 (fun j hj => by rw [f25 j hj, e9]; exact h9 j hj) f26 f27 f28 rfl)
