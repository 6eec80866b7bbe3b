def TOK (σ : MS) : Prop := (0 ≤ σ.1 19 ∧ σ.1 19 ≤ σ.1 20 ∧ σ.1 20 ≤ σ.1 21 ∧ σ.1 21 ≤ 1200) ∧ (σ.1 22 ≠ 0 → σ.1 19 < σ.1 20) ∧ (0 ≤ σ.1 22 ∧ σ.1 22 ≤ 4) ∧ (-1 ≤ σ.1 23 ∧ σ.1 23 ≤ 9999999)

theorem advP_end {s : Int → Int} {p c : Int} (e : c = s p) (h : c < 0) : advP s p = (p, p, 0, c, 0) := by unfold advP; rw [← e, if_pos h]
theorem advP_let {s : Int → Int} {p c n k : Int} {w : Int64} (e : c = s p) (h : ¬ c < 0) (hl : 97 ≤ c ∧ c ≤ 122) (q : ltp s p 0 0 = (n, w, k)) : advP s p = (p, n, if 6 < k then 1 else 2, c, w) := by unfold advP; rw [← e, if_neg h, if_pos hl, q]
theorem advP_dig {s : Int → Int} {p c n k v : Int} (e : c = s p) (h : ¬ c < 0) (hl : ¬ (97 ≤ c ∧ c ≤ 122)) (hd : 48 ≤ c ∧ c ≤ 57) (q : dgp s p 0 0 = (n, v, k)) : advP s p = (p, n, if 7 < k then 1 else 3, v, 0) := by unfold advP; rw [← e, if_neg h, if_neg hl, if_pos hd, q]
theorem advP_sgn {s : Int → Int} {p c : Int} (e : c = s p) (h : ¬ c < 0) (hl : ¬ (97 ≤ c ∧ c ≤ 122)) (hd : ¬ (48 ≤ c ∧ c ≤ 57)) : advP s p = (p, p + 1, if sgZ c < 0 then 1 else 4, c, 0) := by unfold advP; rw [← e, if_neg h, if_neg hl, if_neg hd]

theorem fl12_207 : Cond.fieldLink RX12 207 (TX12 21).1 (TX12 21).2.1 (TX12 21).2.2.1 ∈ pWW := pw7 (List.mem_of_getElem? (i := 28) rfl) rfl
theorem dX12_see_0 : decode cX12_see 0 = .ok (.iload_n 1, 1) := by decide +kernel
theorem dX12_see_1 : decode cX12_see 1 = .ok (.aload_n 0, 1) := by decide +kernel
theorem dX12_see_2 : decode cX12_see 2 = .ok (.getfield 207, 3) := by decide +kernel
theorem dX12_see_5 : decode cX12_see 5 = .ok (.if_icmp .ge 16, 3) := by decide +kernel
theorem dX12_see_21 : decode cX12_see 21 = .ok (.iconst (-1), 1) := by decide +kernel
theorem dX12_see_22 : decode cX12_see 22 = .ok (.ireturn, 1) := by decide +kernel
theorem dX12_see_8 : decode cX12_see 8 = .ok (.aload_n 0, 1) := by decide +kernel
theorem dX12_see_9 : decode cX12_see 9 = .ok (.getfield 7, 3) := by decide +kernel
theorem dX12_see_12 : decode cX12_see 12 = .ok (.iload_n 1, 1) := by decide +kernel
theorem dX12_see_13 : decode cX12_see 13 = .ok (.baload, 1) := by decide +kernel
theorem dX12_see_14 : decode cX12_see 14 = .ok (.sipush 255, 3) := by decide +kernel
theorem dX12_see_17 : decode cX12_see 17 = .ok (.iand, 1) := by decide +kernel
theorem dX12_see_18 : decode cX12_see 18 = .ok (.goto 4, 3) := by decide +kernel
set_option maxHeartbeats 4000000 in
set_option maxRecDepth 20000 in
theorem c_X12_see (d : Nat) {b : Nat} {σ : MS} {k : Int} (hR : RG σ) (hk : 0 ≤ k ∧ k ≤ 2147483647) (hl : σ.1 21 ≤ 1200) : Tm (d + 1) m_X12_see 0 b σ [(0, .ref b), (1, .int (iI k))] [] (fun ro σ2 => ∃ v : Int, ro = some (.int (iI v)) ∧ σ = σ2 ∧ (v = sv σ k) ∧ (-1 ≤ v ∧ v ≤ 255) ∧ ((v < 0 ↔ σ.1 21 ≤ k))) := by
  refine tm_iload_n dX12_see_0 rfl 1 rfl ?_
  refine tm_aload_n dX12_see_1 rfl 0 rfl ?_
  refine tm_getS (k := 21) (t := σ.1 21) dX12_see_2 (by decide) fl12_207 rfl (rfl) ?_
  have g1 := RG.s hR 21
  refine tm_icmp_ge (tgt := 21) dX12_see_5 (by decide) ⟨by omega, by omega⟩ ⟨by omega, by omega⟩ (fun h2 => ?_) (fun h2 => ?_)
  · refine tm_iconst dX12_see_21 ?_
    exact tm_iret rfl dX12_see_22 (⟨_, rfl, rfl, (if_neg (by omega)).symm, by omega, by omega⟩)
  · refine tm_aload_n dX12_see_8 rfl 0 rfl ?_
    refine tm_get (k := 1) (v := .ref (b + 1 + 0)) lay_12 dX12_see_9 (by decide) fl12_7 rfl ?_
    refine tm_iload_n dX12_see_12 rfl 1 rfl ?_
    refine tm_bald (z := k) (v := σ.2.1 1 k) dX12_see_13 (show mT[0]? = some (1, 1, 1200) from rfl) (by omega) (by omega) (by decide) (rfl) ?_
    have g3 := RG.a hR 1 (k)
    refine tm_sipush dX12_see_14 (by decide) ?_
    refine tm_iand dX12_see_17 ?_
    refine tm_goto (tgt := 22) dX12_see_18 (by decide) ?_
    exact tm_iret rfl dX12_see_22 (⟨an5 (σ.2.1 1 k), by rw [an5_eq], rfl, (if_pos (by omega)).symm, by have := an5_r (σ.2.1 1 k); omega, by have := an5_r (σ.2.1 1 k); omega⟩)
theorem fl12_210 : Cond.fieldLink RX12 210 (TX12 20).1 (TX12 20).2.1 (TX12 20).2.2.1 ∈ pWW := pw7 (List.mem_of_getElem? (i := 27) rfl) rfl
theorem ml12_213 : Cond.methodLink RX12 213 yX12_see ∈ pWW := pw8 (List.mem_of_getElem? (i := 55) rfl) rfl
theorem dX12_advance_0 : decode cX12_advance 0 = .ok (.aload_n 0, 1) := by decide +kernel
theorem dX12_advance_1 : decode cX12_advance 1 = .ok (.aload_n 0, 1) := by decide +kernel
theorem dX12_advance_2 : decode cX12_advance 2 = .ok (.getfield 210, 3) := by decide +kernel
theorem dX12_advance_5 : decode cX12_advance 5 = .ok (.invokevirtual 213, 3) := by decide +kernel
theorem dX12_advance_8 : decode cX12_advance 8 = .ok (.bipush 10, 2) := by decide +kernel
theorem dX12_advance_10 : decode cX12_advance 10 = .ok (.if_icmp .eq 16, 3) := by decide +kernel
theorem dX12_advance_26 : decode cX12_advance 26 = .ok (.aload_n 0, 1) := by decide +kernel
theorem dX12_advance_27 : decode cX12_advance 27 = .ok (.dup, 1) := by decide +kernel
theorem dX12_advance_28 : decode cX12_advance 28 = .ok (.getfield 210, 3) := by decide +kernel
theorem dX12_advance_31 : decode cX12_advance 31 = .ok (.iconst 1, 1) := by decide +kernel
theorem dX12_advance_32 : decode cX12_advance 32 = .ok (.iadd, 1) := by decide +kernel
theorem dX12_advance_33 : decode cX12_advance 33 = .ok (.putfield 210, 3) := by decide +kernel
theorem dX12_advance_36 : decode cX12_advance 36 = .ok (.goto (-36), 3) := by decide +kernel
theorem dX12_advance_13 : decode cX12_advance 13 = .ok (.aload_n 0, 1) := by decide +kernel
theorem dX12_advance_14 : decode cX12_advance 14 = .ok (.aload_n 0, 1) := by decide +kernel
theorem dX12_advance_15 : decode cX12_advance 15 = .ok (.getfield 210, 3) := by decide +kernel
theorem dX12_advance_18 : decode cX12_advance 18 = .ok (.invokevirtual 213, 3) := by decide +kernel
theorem dX12_advance_21 : decode cX12_advance 21 = .ok (.bipush 32, 2) := by decide +kernel
theorem dX12_advance_23 : decode cX12_advance 23 = .ok (.if_icmp .ne 16, 3) := by decide +kernel
set_option maxHeartbeats 4000000 in
set_option maxRecDepth 20000 in
theorem l_adv0 (d : Nat) {b : Nat} {σ0 : MS} {p0 : Int} {post : Option Value → MS → Prop} (hR0 : RG σ0) (hlen : 0 ≤ σ0.1 21 ∧ σ0.1 21 ≤ 1200 ∧ 0 ≤ σ0.1 20) (hx_39 : ∀ (σ : MS) , (Fr [20] [] [] σ0 σ) → (RG σ) → (0 ≤ σ.1 20 ∧ σ.1 20 ≤ σ0.1 21 ∧ σ0.1 20 ≤ σ.1 20) → (σ.1 20 = p0) → Tm (d + 2) m_X12_advance 39 b σ [(0, .ref b)] [] post) : ∀ (n : Nat) (σ : MS) , (Fr [20] [] [] σ0 σ) → (RG σ) → (0 ≤ σ.1 20 ∧ σ.1 20 ≤ σ0.1 21 ∧ σ0.1 20 ≤ σ.1 20) → (wsp (sv σ0) (σ.1 20) = p0) → (1300 - σ.1 20).toNat = n → Tm (d + 2) m_X12_advance 0 b σ [(0, .ref b)] [] post := by
  intro n
  induction n using Nat.strongRecOn with
  | _ n ih =>
    intro  σ hF hR h0 hw hm
    have svF : sv σ = sv σ0 := sv_fr hF (by decide) (by decide)
    have e21 : σ.1 21 = σ0.1 21 := hF.1 21 (by decide)
    refine tm_aload_n dX12_advance_0 rfl 0 rfl ?_
    refine tm_aload_n dX12_advance_1 rfl 0 rfl ?_
    refine tm_getS (k := 20) (t := σ.1 20) dX12_advance_2 (by decide) fl12_210 rfl (rfl) ?_
    have g1 := RG.s hR 20
    refine tm_callV (M := m_X12_advance) (pc := 5) (ix := 213) (M' := m_X12_see) (As := [.int (iI (σ.1 20))]) (rest := []) dX12_advance_5 ok_X12_see im_X12_see se_X12_see ml12_213 np_X12_see rfl rfl (Nat.le_of_ble_eq_true rfl) (Nat.le_of_ble_eq_true rfl) rfl (c_X12_see (d) (σ := σ) (k := σ.1 20) hR (by omega) (by rw [show σ.1 21 = σ0.1 21 from rs_F hF (by decide) (rfl)]; omega)) (fun r2 σ3 hp => ?_)
    obtain ⟨v4, rfl, rfl, f5, f6, f7⟩ := hp
    show Tm _ _ 8 b σ [(0, .ref b)] [.int (iI v4)] _
    have es1 : v4 = sv σ0 (σ.1 20) := by rw [f5, svF]
    refine tm_bipush dX12_advance_8 (by decide) ?_
    refine tm_icmp_eq (tgt := 26) dX12_advance_10 (by decide) ⟨by omega, by omega⟩ ⟨by decide, by decide⟩ (fun h8 => ?_) (fun h8 => ?_)
    · refine tm_aload_n dX12_advance_26 rfl 0 rfl ?_
      refine tm_dup dX12_advance_27 rfl ?_
      refine tm_getS (k := 20) (t := σ.1 20) dX12_advance_28 (by decide) fl12_210 rfl (rfl) ?_
      have g9 := RG.s hR 20
      refine tm_iconst dX12_advance_31 ?_
      refine tm_iadd dX12_advance_32 ?_
      refine tm_putS (k := 20) (v := (σ.1 20) + 1) lay_12 dX12_advance_33 (by decide) fl12_210 rfl (tyX12_ok 20 (by decide)) rfl rfl rfl ?_
      refine tm_goto (tgt := 0) dX12_advance_36 (by decide) ?_
      exact tm_sub [0] rfl (ih _ (by rw [show (sS 20 ((σ.1 20) + 1) σ).1 20 = (σ.1 20) + 1 from rs_eq]; omega)  (sS 20 ((σ.1 20) + 1) σ) ((Fr.rfl.trans (Fr.sub hF (by decide) (by decide) (by decide))).S (by decide)) (hR.S (by omega)) (by rw [show (sS 20 ((σ.1 20) + 1) σ).1 20 = (σ.1 20) + 1 from rs_eq]; omega) ((wsp_s (by omega) (by omega)).symm.trans hw) rfl)
    · refine tm_aload_n dX12_advance_13 rfl 0 rfl ?_
      refine tm_aload_n dX12_advance_14 rfl 0 rfl ?_
      refine tm_getS (k := 20) (t := σ.1 20) dX12_advance_15 (by decide) fl12_210 rfl (rfl) ?_
      have g10 := RG.s hR 20
      refine tm_callV (M := m_X12_advance) (pc := 18) (ix := 213) (M' := m_X12_see) (As := [.int (iI (σ.1 20))]) (rest := []) dX12_advance_18 ok_X12_see im_X12_see se_X12_see ml12_213 np_X12_see rfl rfl (Nat.le_of_ble_eq_true rfl) (Nat.le_of_ble_eq_true rfl) rfl (c_X12_see (d) (σ := σ) (k := σ.1 20) hR (by omega) (by rw [show σ.1 21 = σ0.1 21 from rs_F hF (by decide) (rfl)]; omega)) (fun r11 σ12 hp => ?_)
      obtain ⟨v13, rfl, rfl, f14, f15, f16⟩ := hp
      show Tm _ _ 21 b σ [(0, .ref b)] [.int (iI v13)] _
      have es2 : v13 = sv σ0 (σ.1 20) := by rw [f14, svF]
      refine tm_bipush dX12_advance_21 (by decide) ?_
      refine tm_icmp_ne (tgt := 39) dX12_advance_23 (by decide) ⟨by omega, by omega⟩ ⟨by decide, by decide⟩ (fun h17 => ?_) (fun h17 => ?_)
      · exact tm_sub [0] rfl (hx_39  σ (Fr.rfl.trans (Fr.sub hF (by decide) (by decide) (by decide))) hR (by omega) ((wsp_e (by omega)).symm.trans hw))
      · refine tm_aload_n dX12_advance_26 rfl 0 rfl ?_
        refine tm_dup dX12_advance_27 rfl ?_
        refine tm_getS (k := 20) (t := σ.1 20) dX12_advance_28 (by decide) fl12_210 rfl (rfl) ?_
        have g18 := RG.s hR 20
        refine tm_iconst dX12_advance_31 ?_
        refine tm_iadd dX12_advance_32 ?_
        refine tm_putS (k := 20) (v := (σ.1 20) + 1) lay_12 dX12_advance_33 (by decide) fl12_210 rfl (tyX12_ok 20 (by decide)) rfl rfl rfl ?_
        refine tm_goto (tgt := 0) dX12_advance_36 (by decide) ?_
        exact tm_sub [0] rfl (ih _ (by rw [show (sS 20 ((σ.1 20) + 1) σ).1 20 = (σ.1 20) + 1 from rs_eq]; omega)  (sS 20 ((σ.1 20) + 1) σ) ((Fr.rfl.trans (Fr.sub hF (by decide) (by decide) (by decide))).S (by decide)) (hR.S (by omega)) (by rw [show (sS 20 ((σ.1 20) + 1) σ).1 20 = (σ.1 20) + 1 from rs_eq]; omega) ((wsp_s (by omega) (by omega)).symm.trans hw) rfl)
theorem ml12_229 : Cond.methodLink RX12 229 yX12_isLetter ∈ pWW := pw8 (List.mem_of_getElem? (i := 59) rfl) rfl
theorem dX12_advance_87 : decode cX12_advance 87 = .ok (.aload_n 0, 1) := by decide +kernel
theorem dX12_advance_88 : decode cX12_advance 88 = .ok (.aload_n 0, 1) := by decide +kernel
theorem dX12_advance_89 : decode cX12_advance 89 = .ok (.getfield 210, 3) := by decide +kernel
theorem dX12_advance_92 : decode cX12_advance 92 = .ok (.invokevirtual 213, 3) := by decide +kernel
theorem dX12_advance_95 : decode cX12_advance 95 = .ok (.invokestatic 229, 3) := by decide +kernel
theorem dX12_advance_98 : decode cX12_advance 98 = .ok (.ifCond .eq 40, 3) := by decide +kernel
theorem dX12_advance_101 : decode cX12_advance 101 = .ok (.aload_n 0, 1) := by decide +kernel
theorem dX12_advance_102 : decode cX12_advance 102 = .ok (.aload_n 0, 1) := by decide +kernel
theorem dX12_advance_103 : decode cX12_advance 103 = .ok (.getfield 219, 3) := by decide +kernel
theorem dX12_advance_106 : decode cX12_advance 106 = .ok (.bipush 8, 2) := by decide +kernel
theorem dX12_advance_108 : decode cX12_advance 108 = .ok (.lshl, 1) := by decide +kernel
theorem dX12_advance_109 : decode cX12_advance 109 = .ok (.aload_n 0, 1) := by decide +kernel
theorem dX12_advance_110 : decode cX12_advance 110 = .ok (.aload_n 0, 1) := by decide +kernel
theorem dX12_advance_111 : decode cX12_advance 111 = .ok (.getfield 210, 3) := by decide +kernel
theorem dX12_advance_114 : decode cX12_advance 114 = .ok (.invokevirtual 213, 3) := by decide +kernel
theorem dX12_advance_117 : decode cX12_advance 117 = .ok (.i2l, 1) := by decide +kernel
theorem dX12_advance_118 : decode cX12_advance 118 = .ok (.lor, 1) := by decide +kernel
theorem dX12_advance_119 : decode cX12_advance 119 = .ok (.putfield 219, 3) := by decide +kernel
theorem dX12_advance_122 : decode cX12_advance 122 = .ok (.aload_n 0, 1) := by decide +kernel
theorem dX12_advance_123 : decode cX12_advance 123 = .ok (.dup, 1) := by decide +kernel
theorem dX12_advance_124 : decode cX12_advance 124 = .ok (.getfield 210, 3) := by decide +kernel
theorem dX12_advance_127 : decode cX12_advance 127 = .ok (.iconst 1, 1) := by decide +kernel
theorem dX12_advance_128 : decode cX12_advance 128 = .ok (.iadd, 1) := by decide +kernel
theorem dX12_advance_129 : decode cX12_advance 129 = .ok (.putfield 210, 3) := by decide +kernel
theorem dX12_advance_132 : decode cX12_advance 132 = .ok (.iinc 2 1, 3) := by decide +kernel
theorem dX12_advance_135 : decode cX12_advance 135 = .ok (.goto (-48), 3) := by decide +kernel
set_option maxHeartbeats 4000000 in
set_option maxRecDepth 20000 in
theorem l_adv1 (d : Nat) {b : Nat} {σ0 : MS} {c : Int} {R0 : Int × Int64 × Int} {post : Option Value → MS → Prop} (hR0 : RG σ0) (hlen : 0 ≤ σ0.1 21 ∧ σ0.1 21 ≤ 1200 ∧ 0 ≤ σ0.1 20) (hcl : 97 ≤ c ∧ c ≤ 122) (hx_138 : ∀ (n1 : Int) (σ : MS) , (Fr [20] [] [24] σ0 σ) → (RG σ) → (0 ≤ σ.1 20 ∧ σ.1 20 ≤ σ0.1 21 ∧ σ0.1 20 ≤ σ.1 20 ∧ n1 = σ.1 20 - σ0.1 20 ∧ 1 ≤ n1) → (R0 = (σ.1 20, σ.2.2 24 0, n1)) → Tm (d + 3) m_X12_advance 138 b σ [(2, .int (iI n1)), (1, .int (iI c)), (0, .ref b)] [] post) : ∀ (n : Nat) (n1 : Int) (σ : MS) , (Fr [20] [] [24] σ0 σ) → (RG σ) → (0 ≤ σ.1 20 ∧ σ.1 20 ≤ σ0.1 21 ∧ σ0.1 20 ≤ σ.1 20 ∧ n1 = σ.1 20 - σ0.1 20) → (n1 = 0 → c = sv σ0 (σ.1 20)) → (ltp (sv σ0) (σ.1 20) (σ.2.2 24 0) n1 = R0) → (1300 - σ.1 20).toNat = n → Tm (d + 3) m_X12_advance 87 b σ [(2, .int (iI n1)), (1, .int (iI c)), (0, .ref b)] [] post := by
  intro n
  induction n using Nat.strongRecOn with
  | _ n ih =>
    intro n1 σ hF hR h0 hc hw hm
    have svF : sv σ = sv σ0 := sv_fr hF (by decide) (by decide)
    have e21 : σ.1 21 = σ0.1 21 := hF.1 21 (by decide)
    refine tm_aload_n dX12_advance_87 rfl 2 rfl ?_
    refine tm_aload_n dX12_advance_88 rfl 2 rfl ?_
    refine tm_getS (k := 20) (t := σ.1 20) dX12_advance_89 (by decide) fl12_210 rfl (rfl) ?_
    have g1 := RG.s hR 20
    refine tm_callV (M := m_X12_advance) (pc := 92) (ix := 213) (M' := m_X12_see) (As := [.int (iI (σ.1 20))]) (rest := []) dX12_advance_92 ok_X12_see im_X12_see se_X12_see ml12_213 np_X12_see rfl rfl (Nat.le_of_ble_eq_true rfl) (Nat.le_of_ble_eq_true rfl) rfl (c_X12_see (d + 1) (σ := σ) (k := σ.1 20) hR (by omega) (by rw [show σ.1 21 = σ0.1 21 from rs_F hF (by decide) (rfl)]; omega)) (fun r2 σ3 hp => ?_)
    obtain ⟨v4, rfl, rfl, f5, f6, f7⟩ := hp
    show Tm _ _ 95 b σ [(2, .int (iI n1)), (1, .int (iI c)), (0, .ref b)] [.int (iI v4)] _
    have es1 : v4 = sv σ0 (σ.1 20) := by rw [f5, svF]
    refine tm_callS (M := m_X12_advance) (pc := 95) (ix := 229) (M' := m_X12_isLetter) (As := [.int (iI v4)]) (rest := []) dX12_advance_95 ok_X12_isLetter stt_X12_isLetter ml12_229 np_X12_isLetter rfl (Nat.le_of_ble_eq_true rfl) (Nat.le_of_ble_eq_true rfl) rfl (c_X12_isLetter (d) (σ := σ) (x := v4) (by omega)) (fun r8 σ9 hp => ?_)
    obtain ⟨v10, rfl, rfl, f11, f12⟩ := hp
    show Tm _ _ 98 b σ [(2, .int (iI n1)), (1, .int (iI c)), (0, .ref b)] [.int (iI v10)] _
    refine tm_if_eq (tgt := 138) dX12_advance_98 (by decide) ⟨by omega, by omega⟩ (fun h13 => ?_) (fun h13 => ?_)
    · exact tm_sub [0, 1, 2] rfl (hx_138 (n1) σ (Fr.rfl.trans (Fr.sub hF (by decide) (by decide) (by decide))) hR (by omega) (hw.symm.trans (ltp_e (by omega))))
    · refine tm_aload_n dX12_advance_101 rfl 2 rfl ?_
      refine tm_aload_n dX12_advance_102 rfl 2 rfl ?_
      refine tm_getW (t := σ.2.2 24 0) dX12_advance_103 fl12_219 (rfl) ?_
      refine tm_bipush dX12_advance_106 (by decide) ?_
      refine tm_lshl dX12_advance_108 ?_
      refine tm_aload_n dX12_advance_109 rfl 2 rfl ?_
      refine tm_aload_n dX12_advance_110 rfl 2 rfl ?_
      refine tm_getS (k := 20) (t := σ.1 20) dX12_advance_111 (by decide) fl12_210 rfl (rfl) ?_
      have g14 := RG.s hR 20
      refine tm_callV (M := m_X12_advance) (pc := 114) (ix := 213) (M' := m_X12_see) (As := [.int (iI (σ.1 20))]) (rest := [.long ((σ.2.2 24 0) <<< ((iI 8).toInt64 &&& 63)), .ref b]) dX12_advance_114 ok_X12_see im_X12_see se_X12_see ml12_213 np_X12_see rfl rfl (Nat.le_of_ble_eq_true rfl) (Nat.le_of_ble_eq_true rfl) rfl (c_X12_see (d + 1) (σ := σ) (k := σ.1 20) hR (by omega) (by rw [show σ.1 21 = σ0.1 21 from rs_F hF (by decide) (rfl)]; omega)) (fun r15 σ16 hp => ?_)
      obtain ⟨v17, rfl, rfl, f18, f19, f20⟩ := hp
      show Tm _ _ 117 b σ [(2, .int (iI n1)), (1, .int (iI c)), (0, .ref b)] [.int (iI v17), .long ((σ.2.2 24 0) <<< ((iI 8).toInt64 &&& 63)), .ref b] _
      have es2 : v17 = sv σ0 (σ.1 20) := by rw [f18, svF]
      refine tm_i2l dX12_advance_117 ?_
      refine tm_lor dX12_advance_118 ?_
      refine tm_putW lay_12 dX12_advance_119 fl12_219 ?_
      refine tm_aload_n dX12_advance_122 rfl 2 rfl ?_
      refine tm_dup dX12_advance_123 rfl ?_
      refine tm_getS (k := 20) (t := σ.1 20) dX12_advance_124 (by decide) fl12_210 rfl (rs_J (rfl)) ?_
      have g21 := RG.s hR 20
      refine tm_iconst dX12_advance_127 ?_
      refine tm_iadd dX12_advance_128 ?_
      refine tm_putS (k := 20) (v := (σ.1 20) + 1) lay_12 dX12_advance_129 (by decide) fl12_210 rfl (tyX12_ok 20 (by decide)) rfl rfl rfl ?_
      refine tm_iinc (q0 := 0) (L' := [(2, .int (iI (n1 + 1))), (1, .int (iI c)), (0, .ref b)]) dX12_advance_132 rfl (by decide) rfl ?_
      refine tm_goto (tgt := 87) dX12_advance_135 (by decide) ?_
      exact tm_sub [0, 1, 2] rfl (ih _ (by rw [show (sS 20 ((σ.1 20) + 1) (sJ 24 0 (((σ.2.2 24 0) <<< ((iI 8).toInt64 &&& 63)) ||| ((iI v17).toInt64)) σ)).1 20 = (σ.1 20) + 1 from rs_eq]; omega) (n1 + 1) (sS 20 ((σ.1 20) + 1) (sJ 24 0 (((σ.2.2 24 0) <<< ((iI 8).toInt64 &&& 63)) ||| ((iI v17).toInt64)) σ)) (((Fr.rfl.trans (Fr.sub hF (by decide) (by decide) (by decide))).J (by decide)).S (by decide)) ((hR.J).S (by omega)) (by rw [show (sS 20 ((σ.1 20) + 1) (sJ 24 0 (((σ.2.2 24 0) <<< ((iI 8).toInt64 &&& 63)) ||| ((iI v17).toInt64)) σ)).1 20 = (σ.1 20) + 1 from rs_eq]; omega) (fun q => absurd q (by omega)) (by rw [es2]; exact (ltp_s (by omega) (by omega)).symm.trans hw) rfl)
theorem ml12_232 : Cond.methodLink RX12 232 yX12_isDigit ∈ pWW := pw8 (List.mem_of_getElem? (i := 62) rfl) rfl
theorem dX12_advance_170 : decode cX12_advance 170 = .ok (.aload_n 0, 1) := by decide +kernel
theorem dX12_advance_171 : decode cX12_advance 171 = .ok (.aload_n 0, 1) := by decide +kernel
theorem dX12_advance_172 : decode cX12_advance 172 = .ok (.getfield 210, 3) := by decide +kernel
theorem dX12_advance_175 : decode cX12_advance 175 = .ok (.invokevirtual 213, 3) := by decide +kernel
theorem dX12_advance_178 : decode cX12_advance 178 = .ok (.invokestatic 232, 3) := by decide +kernel
theorem dX12_advance_181 : decode cX12_advance 181 = .ok (.ifCond .eq 55, 3) := by decide +kernel
theorem dX12_advance_184 : decode cX12_advance 184 = .ok (.aload_n 0, 1) := by decide +kernel
theorem dX12_advance_185 : decode cX12_advance 185 = .ok (.iload_n 2, 1) := by decide +kernel
theorem dX12_advance_186 : decode cX12_advance 186 = .ok (.bipush 7, 2) := by decide +kernel
theorem dX12_advance_188 : decode cX12_advance 188 = .ok (.if_icmp .ge 25, 3) := by decide +kernel
theorem dX12_advance_213 : decode cX12_advance 213 = .ok (.aload_n 0, 1) := by decide +kernel
theorem dX12_advance_214 : decode cX12_advance 214 = .ok (.getfield 223, 3) := by decide +kernel
theorem dX12_advance_217 : decode cX12_advance 217 = .ok (.putfield 223, 3) := by decide +kernel
theorem dX12_advance_220 : decode cX12_advance 220 = .ok (.aload_n 0, 1) := by decide +kernel
theorem dX12_advance_221 : decode cX12_advance 221 = .ok (.dup, 1) := by decide +kernel
theorem dX12_advance_222 : decode cX12_advance 222 = .ok (.getfield 210, 3) := by decide +kernel
theorem dX12_advance_225 : decode cX12_advance 225 = .ok (.iconst 1, 1) := by decide +kernel
theorem dX12_advance_226 : decode cX12_advance 226 = .ok (.iadd, 1) := by decide +kernel
theorem dX12_advance_227 : decode cX12_advance 227 = .ok (.putfield 210, 3) := by decide +kernel
theorem dX12_advance_230 : decode cX12_advance 230 = .ok (.iinc 2 1, 3) := by decide +kernel
theorem dX12_advance_233 : decode cX12_advance 233 = .ok (.goto (-63), 3) := by decide +kernel
theorem dX12_advance_191 : decode cX12_advance 191 = .ok (.bipush 10, 2) := by decide +kernel
theorem dX12_advance_193 : decode cX12_advance 193 = .ok (.aload_n 0, 1) := by decide +kernel
theorem dX12_advance_194 : decode cX12_advance 194 = .ok (.getfield 223, 3) := by decide +kernel
theorem dX12_advance_197 : decode cX12_advance 197 = .ok (.imul, 1) := by decide +kernel
theorem dX12_advance_198 : decode cX12_advance 198 = .ok (.aload_n 0, 1) := by decide +kernel
theorem dX12_advance_199 : decode cX12_advance 199 = .ok (.aload_n 0, 1) := by decide +kernel
theorem dX12_advance_200 : decode cX12_advance 200 = .ok (.getfield 210, 3) := by decide +kernel
theorem dX12_advance_203 : decode cX12_advance 203 = .ok (.invokevirtual 213, 3) := by decide +kernel
theorem dX12_advance_206 : decode cX12_advance 206 = .ok (.iadd, 1) := by decide +kernel
theorem dX12_advance_207 : decode cX12_advance 207 = .ok (.bipush 48, 2) := by decide +kernel
theorem dX12_advance_209 : decode cX12_advance 209 = .ok (.isub, 1) := by decide +kernel
theorem dX12_advance_210 : decode cX12_advance 210 = .ok (.goto 7, 3) := by decide +kernel
set_option maxHeartbeats 4000000 in
set_option maxRecDepth 20000 in
theorem l_adv2 (d : Nat) {b : Nat} {σ0 : MS} {c : Int} {R0 : Int × Int × Int} {post : Option Value → MS → Prop} (hR0 : RG σ0) (hlen : 0 ≤ σ0.1 21 ∧ σ0.1 21 ≤ 1200 ∧ 0 ≤ σ0.1 20) (hcl : 48 ≤ c ∧ c ≤ 57) (hx_236 : ∀ (n1 : Int) (σ : MS) , (Fr [20, 23] [] [] σ0 σ) → (RG σ) → (0 ≤ σ.1 20 ∧ σ.1 20 ≤ σ0.1 21 ∧ σ0.1 20 ≤ σ.1 20 ∧ n1 = σ.1 20 - σ0.1 20 ∧ 1 ≤ n1) → (0 ≤ σ.1 23 ∧ σ.1 23 ≤ 9999999) → (R0 = (σ.1 20, σ.1 23, n1)) → Tm (d + 3) m_X12_advance 236 b σ [(2, .int (iI n1)), (1, .int (iI c)), (0, .ref b)] [] post) : ∀ (n : Nat) (n1 : Int) (σ : MS) , (Fr [20, 23] [] [] σ0 σ) → (RG σ) → (0 ≤ σ.1 20 ∧ σ.1 20 ≤ σ0.1 21 ∧ σ0.1 20 ≤ σ.1 20 ∧ n1 = σ.1 20 - σ0.1 20) → (n1 = 0 → c = sv σ0 (σ.1 20)) → ((n1 = 0 → σ.1 23 = 0) ∧ (n1 = 1 → σ.1 23 ≤ 9) ∧ (n1 = 2 → σ.1 23 ≤ 99) ∧ (n1 = 3 → σ.1 23 ≤ 999) ∧ (n1 = 4 → σ.1 23 ≤ 9999) ∧ (n1 = 5 → σ.1 23 ≤ 99999) ∧ (n1 = 6 → σ.1 23 ≤ 999999) ∧ 0 ≤ σ.1 23 ∧ σ.1 23 ≤ 9999999) → (dgp (sv σ0) (σ.1 20) (σ.1 23) n1 = R0) → (1300 - σ.1 20).toNat = n → Tm (d + 3) m_X12_advance 170 b σ [(2, .int (iI n1)), (1, .int (iI c)), (0, .ref b)] [] post := by
  intro n
  induction n using Nat.strongRecOn with
  | _ n ih =>
    intro n1 σ hF hR h0 hc hv hw hm
    have svF : sv σ = sv σ0 := sv_fr hF (by decide) (by decide)
    have e21 : σ.1 21 = σ0.1 21 := hF.1 21 (by decide)
    refine tm_aload_n dX12_advance_170 rfl 2 rfl ?_
    refine tm_aload_n dX12_advance_171 rfl 2 rfl ?_
    refine tm_getS (k := 20) (t := σ.1 20) dX12_advance_172 (by decide) fl12_210 rfl (rfl) ?_
    have g1 := RG.s hR 20
    refine tm_callV (M := m_X12_advance) (pc := 175) (ix := 213) (M' := m_X12_see) (As := [.int (iI (σ.1 20))]) (rest := []) dX12_advance_175 ok_X12_see im_X12_see se_X12_see ml12_213 np_X12_see rfl rfl (Nat.le_of_ble_eq_true rfl) (Nat.le_of_ble_eq_true rfl) rfl (c_X12_see (d + 1) (σ := σ) (k := σ.1 20) hR (by omega) (by rw [show σ.1 21 = σ0.1 21 from rs_F hF (by decide) (rfl)]; omega)) (fun r2 σ3 hp => ?_)
    obtain ⟨v4, rfl, rfl, f5, f6, f7⟩ := hp
    show Tm _ _ 178 b σ [(2, .int (iI n1)), (1, .int (iI c)), (0, .ref b)] [.int (iI v4)] _
    have es1 : v4 = sv σ0 (σ.1 20) := by rw [f5, svF]
    refine tm_callS (M := m_X12_advance) (pc := 178) (ix := 232) (M' := m_X12_isDigit) (As := [.int (iI v4)]) (rest := []) dX12_advance_178 ok_X12_isDigit stt_X12_isDigit ml12_232 np_X12_isDigit rfl (Nat.le_of_ble_eq_true rfl) (Nat.le_of_ble_eq_true rfl) rfl (c_X12_isDigit (d) (σ := σ) (x := v4) (by omega)) (fun r8 σ9 hp => ?_)
    obtain ⟨v10, rfl, rfl, f11, f12⟩ := hp
    show Tm _ _ 181 b σ [(2, .int (iI n1)), (1, .int (iI c)), (0, .ref b)] [.int (iI v10)] _
    refine tm_if_eq (tgt := 236) dX12_advance_181 (by decide) ⟨by omega, by omega⟩ (fun h13 => ?_) (fun h13 => ?_)
    · exact tm_sub [0, 1, 2] rfl (hx_236 (n1) σ (Fr.rfl.trans (Fr.sub hF (by decide) (by decide) (by decide))) hR (by omega) (by omega) (hw.symm.trans (dgp_e (by omega))))
    · refine tm_aload_n dX12_advance_184 rfl 2 rfl ?_
      refine tm_iload_n dX12_advance_185 rfl 0 rfl ?_
      refine tm_bipush dX12_advance_186 (by decide) ?_
      refine tm_icmp_ge (tgt := 213) dX12_advance_188 (by decide) ⟨by omega, by omega⟩ ⟨by decide, by decide⟩ (fun h14 => ?_) (fun h14 => ?_)
      · refine tm_aload_n dX12_advance_213 rfl 2 rfl ?_
        refine tm_getS (k := 23) (t := σ.1 23) dX12_advance_214 (by decide) fl12_223 rfl (rfl) ?_
        have g15 := RG.s hR 23
        refine tm_putS (k := 23) (v := σ.1 23) lay_12 dX12_advance_217 (by decide) fl12_223 rfl (tyX12_ok 23 (by decide)) rfl rfl rfl ?_
        refine tm_aload_n dX12_advance_220 rfl 2 rfl ?_
        refine tm_dup dX12_advance_221 rfl ?_
        refine tm_getS (k := 20) (t := σ.1 20) dX12_advance_222 (by decide) fl12_210 rfl (rs_o (by decide) (rfl)) ?_
        have g16 := RG.s hR 20
        refine tm_iconst dX12_advance_225 ?_
        refine tm_iadd dX12_advance_226 ?_
        refine tm_putS (k := 20) (v := (σ.1 20) + 1) lay_12 dX12_advance_227 (by decide) fl12_210 rfl (tyX12_ok 20 (by decide)) rfl rfl rfl ?_
        refine tm_iinc (q0 := 0) (L' := [(2, .int (iI (n1 + 1))), (1, .int (iI c)), (0, .ref b)]) dX12_advance_230 rfl (by decide) rfl ?_
        refine tm_goto (tgt := 170) dX12_advance_233 (by decide) ?_
        exact tm_sub [0, 1, 2] rfl (ih _ (by rw [show (sS 20 ((σ.1 20) + 1) (sS 23 (σ.1 23) σ)).1 20 = (σ.1 20) + 1 from rs_eq]; omega) (n1 + 1) (sS 20 ((σ.1 20) + 1) (sS 23 (σ.1 23) σ)) (((Fr.rfl.trans (Fr.sub hF (by decide) (by decide) (by decide))).S (by decide)).S (by decide)) ((hR.S (by omega)).S (by omega)) (by rw [show (sS 20 ((σ.1 20) + 1) (sS 23 (σ.1 23) σ)).1 20 = (σ.1 20) + 1 from rs_eq]; omega) (fun q => absurd q (by omega)) (by rw [show (sS 20 ((σ.1 20) + 1) (sS 23 (σ.1 23) σ)).1 23 = σ.1 23 from rs_o (by decide) (rs_eq)]; omega) (by have z := dgp_s (s := sv σ0) (n := σ.1 20) (v := σ.1 23) (c := n1) (by omega) (by omega); unfold dgv at z; rw [if_neg (by omega)] at z; exact z.symm.trans hw) rfl)
      · refine tm_bipush dX12_advance_191 (by decide) ?_
        refine tm_aload_n dX12_advance_193 rfl 2 rfl ?_
        refine tm_getS (k := 23) (t := σ.1 23) dX12_advance_194 (by decide) fl12_223 rfl (rfl) ?_
        have g17 := RG.s hR 23
        refine tm_imul dX12_advance_197 ?_
        refine tm_aload_n dX12_advance_198 rfl 2 rfl ?_
        refine tm_aload_n dX12_advance_199 rfl 2 rfl ?_
        refine tm_getS (k := 20) (t := σ.1 20) dX12_advance_200 (by decide) fl12_210 rfl (rfl) ?_
        have g18 := RG.s hR 20
        refine tm_callV (M := m_X12_advance) (pc := 203) (ix := 213) (M' := m_X12_see) (As := [.int (iI (σ.1 20))]) (rest := [.int (iI (10 * (σ.1 23))), .ref b]) dX12_advance_203 ok_X12_see im_X12_see se_X12_see ml12_213 np_X12_see rfl rfl (Nat.le_of_ble_eq_true rfl) (Nat.le_of_ble_eq_true rfl) rfl (c_X12_see (d + 1) (σ := σ) (k := σ.1 20) hR (by omega) (by rw [show σ.1 21 = σ0.1 21 from rs_F hF (by decide) (rfl)]; omega)) (fun r19 σ20 hp => ?_)
        obtain ⟨v21, rfl, rfl, f22, f23, f24⟩ := hp
        show Tm _ _ 206 b σ [(2, .int (iI n1)), (1, .int (iI c)), (0, .ref b)] [.int (iI v21), .int (iI (10 * (σ.1 23))), .ref b] _
        have es2 : v21 = sv σ0 (σ.1 20) := by rw [f22, svF]
        refine tm_iadd dX12_advance_206 ?_
        refine tm_bipush dX12_advance_207 (by decide) ?_
        refine tm_isub dX12_advance_209 ?_
        refine tm_goto (tgt := 217) dX12_advance_210 (by decide) ?_
        refine tm_putS (k := 23) (v := ((10 * (σ.1 23)) + v21) - 48) lay_12 dX12_advance_217 (by decide) fl12_223 rfl (tyX12_ok 23 (by decide)) rfl rfl rfl ?_
        refine tm_aload_n dX12_advance_220 rfl 2 rfl ?_
        refine tm_dup dX12_advance_221 rfl ?_
        refine tm_getS (k := 20) (t := σ.1 20) dX12_advance_222 (by decide) fl12_210 rfl (rs_o (by decide) (rfl)) ?_
        have g25 := RG.s hR 20
        refine tm_iconst dX12_advance_225 ?_
        refine tm_iadd dX12_advance_226 ?_
        refine tm_putS (k := 20) (v := (σ.1 20) + 1) lay_12 dX12_advance_227 (by decide) fl12_210 rfl (tyX12_ok 20 (by decide)) rfl rfl rfl ?_
        refine tm_iinc (q0 := 0) (L' := [(2, .int (iI (n1 + 1))), (1, .int (iI c)), (0, .ref b)]) dX12_advance_230 rfl (by decide) rfl ?_
        refine tm_goto (tgt := 170) dX12_advance_233 (by decide) ?_
        exact tm_sub [0, 1, 2] rfl (ih _ (by rw [show (sS 20 ((σ.1 20) + 1) (sS 23 (((10 * (σ.1 23)) + v21) - 48) σ)).1 20 = (σ.1 20) + 1 from rs_eq]; omega) (n1 + 1) (sS 20 ((σ.1 20) + 1) (sS 23 (((10 * (σ.1 23)) + v21) - 48) σ)) (((Fr.rfl.trans (Fr.sub hF (by decide) (by decide) (by decide))).S (by decide)).S (by decide)) ((hR.S (by omega)).S (by omega)) (by rw [show (sS 20 ((σ.1 20) + 1) (sS 23 (((10 * (σ.1 23)) + v21) - 48) σ)).1 20 = (σ.1 20) + 1 from rs_eq]; omega) (fun q => absurd q (by omega)) (by rw [show (sS 20 ((σ.1 20) + 1) (sS 23 (((10 * (σ.1 23)) + v21) - 48) σ)).1 23 = ((10 * (σ.1 23)) + v21) - 48 from rs_o (by decide) (rs_eq)]; omega) (by rw [es2]; have z := dgp_s (s := sv σ0) (n := σ.1 20) (v := σ.1 23) (c := n1) (by omega) (by omega); unfold dgv at z; rw [if_pos (by omega)] at z; exact z.symm.trans hw) rfl)
theorem dX12_advance_39 : decode cX12_advance 39 = .ok (.aload_n 0, 1) := by decide +kernel
theorem dX12_advance_40 : decode cX12_advance 40 = .ok (.aload_n 0, 1) := by decide +kernel
theorem dX12_advance_41 : decode cX12_advance 41 = .ok (.getfield 210, 3) := by decide +kernel
theorem dX12_advance_44 : decode cX12_advance 44 = .ok (.putfield 216, 3) := by decide +kernel
theorem dX12_advance_47 : decode cX12_advance 47 = .ok (.aload_n 0, 1) := by decide +kernel
theorem dX12_advance_48 : decode cX12_advance 48 = .ok (.aload_n 0, 1) := by decide +kernel
theorem dX12_advance_49 : decode cX12_advance 49 = .ok (.getfield 210, 3) := by decide +kernel
theorem dX12_advance_52 : decode cX12_advance 52 = .ok (.invokevirtual 213, 3) := by decide +kernel
theorem dX12_advance_55 : decode cX12_advance 55 = .ok (.istore_n 1, 1) := by decide +kernel
theorem dX12_advance_56 : decode cX12_advance 56 = .ok (.aload_n 0, 1) := by decide +kernel
theorem dX12_advance_57 : decode cX12_advance 57 = .ok (.lconst 0, 1) := by decide +kernel
theorem dX12_advance_58 : decode cX12_advance 58 = .ok (.putfield 219, 3) := by decide +kernel
theorem dX12_advance_61 : decode cX12_advance 61 = .ok (.aload_n 0, 1) := by decide +kernel
theorem dX12_advance_62 : decode cX12_advance 62 = .ok (.iload_n 1, 1) := by decide +kernel
theorem dX12_advance_63 : decode cX12_advance 63 = .ok (.putfield 223, 3) := by decide +kernel
theorem dX12_advance_66 : decode cX12_advance 66 = .ok (.iload_n 1, 1) := by decide +kernel
theorem dX12_advance_67 : decode cX12_advance 67 = .ok (.ifCond .ge 11, 3) := by decide +kernel
theorem dX12_advance_78 : decode cX12_advance 78 = .ok (.iload_n 1, 1) := by decide +kernel
theorem dX12_advance_79 : decode cX12_advance 79 = .ok (.invokestatic 229, 3) := by decide +kernel
theorem dX12_advance_82 : decode cX12_advance 82 = .ok (.ifCond .eq 74, 3) := by decide +kernel
theorem dX12_advance_156 : decode cX12_advance 156 = .ok (.iload_n 1, 1) := by decide +kernel
theorem dX12_advance_157 : decode cX12_advance 157 = .ok (.invokestatic 232, 3) := by decide +kernel
theorem dX12_advance_160 : decode cX12_advance 160 = .ok (.ifCond .eq 94, 3) := by decide +kernel
theorem dX12_advance_254 : decode cX12_advance 254 = .ok (.aload_n 0, 1) := by decide +kernel
theorem dX12_advance_255 : decode cX12_advance 255 = .ok (.dup, 1) := by decide +kernel
theorem dX12_advance_256 : decode cX12_advance 256 = .ok (.getfield 210, 3) := by decide +kernel
theorem dX12_advance_259 : decode cX12_advance 259 = .ok (.iconst 1, 1) := by decide +kernel
theorem dX12_advance_260 : decode cX12_advance 260 = .ok (.iadd, 1) := by decide +kernel
theorem dX12_advance_261 : decode cX12_advance 261 = .ok (.putfield 210, 3) := by decide +kernel
theorem dX12_advance_264 : decode cX12_advance 264 = .ok (.aload_n 0, 1) := by decide +kernel
theorem dX12_advance_265 : decode cX12_advance 265 = .ok (.ldc 235, 2) := by decide +kernel
theorem dX12_advance_267 : decode cX12_advance 267 = .ok (.iload_n 1, 1) := by decide +kernel
theorem dX12_advance_268 : decode cX12_advance 268 = .ok (.invokevirtual 237, 3) := by decide +kernel
theorem dX12_advance_271 : decode cX12_advance 271 = .ok (.ifCond .lt 7, 3) := by decide +kernel
theorem dX12_advance_278 : decode cX12_advance 278 = .ok (.iconst 1, 1) := by decide +kernel
theorem dX12_advance_279 : decode cX12_advance 279 = .ok (.putfield 226, 3) := by decide +kernel
theorem dX12_advance_282 : decode cX12_advance 282 = .ok (.return_, 1) := by decide +kernel
theorem dX12_advance_274 : decode cX12_advance 274 = .ok (.iconst 4, 1) := by decide +kernel
theorem dX12_advance_275 : decode cX12_advance 275 = .ok (.goto 4, 3) := by decide +kernel
theorem dX12_advance_163 : decode cX12_advance 163 = .ok (.iconst 0, 1) := by decide +kernel
theorem dX12_advance_164 : decode cX12_advance 164 = .ok (.istore_n 2, 1) := by decide +kernel
theorem dX12_advance_165 : decode cX12_advance 165 = .ok (.aload_n 0, 1) := by decide +kernel
theorem dX12_advance_166 : decode cX12_advance 166 = .ok (.iconst 0, 1) := by decide +kernel
theorem dX12_advance_167 : decode cX12_advance 167 = .ok (.putfield 223, 3) := by decide +kernel
theorem dX12_advance_236 : decode cX12_advance 236 = .ok (.aload_n 0, 1) := by decide +kernel
theorem dX12_advance_237 : decode cX12_advance 237 = .ok (.iload_n 2, 1) := by decide +kernel
theorem dX12_advance_238 : decode cX12_advance 238 = .ok (.bipush 7, 2) := by decide +kernel
theorem dX12_advance_240 : decode cX12_advance 240 = .ok (.if_icmp .le 7, 3) := by decide +kernel
theorem dX12_advance_247 : decode cX12_advance 247 = .ok (.iconst 3, 1) := by decide +kernel
theorem dX12_advance_248 : decode cX12_advance 248 = .ok (.putfield 226, 3) := by decide +kernel
theorem dX12_advance_251 : decode cX12_advance 251 = .ok (.goto 31, 3) := by decide +kernel
theorem dX12_advance_243 : decode cX12_advance 243 = .ok (.iconst 1, 1) := by decide +kernel
theorem dX12_advance_244 : decode cX12_advance 244 = .ok (.goto 4, 3) := by decide +kernel
theorem dX12_advance_85 : decode cX12_advance 85 = .ok (.iconst 0, 1) := by decide +kernel
theorem dX12_advance_86 : decode cX12_advance 86 = .ok (.istore_n 2, 1) := by decide +kernel
theorem dX12_advance_138 : decode cX12_advance 138 = .ok (.aload_n 0, 1) := by decide +kernel
theorem dX12_advance_139 : decode cX12_advance 139 = .ok (.iload_n 2, 1) := by decide +kernel
theorem dX12_advance_140 : decode cX12_advance 140 = .ok (.bipush 6, 2) := by decide +kernel
theorem dX12_advance_142 : decode cX12_advance 142 = .ok (.if_icmp .le 7, 3) := by decide +kernel
theorem dX12_advance_149 : decode cX12_advance 149 = .ok (.iconst 2, 1) := by decide +kernel
theorem dX12_advance_150 : decode cX12_advance 150 = .ok (.putfield 226, 3) := by decide +kernel
theorem dX12_advance_153 : decode cX12_advance 153 = .ok (.goto 129, 3) := by decide +kernel
theorem dX12_advance_145 : decode cX12_advance 145 = .ok (.iconst 1, 1) := by decide +kernel
theorem dX12_advance_146 : decode cX12_advance 146 = .ok (.goto 4, 3) := by decide +kernel
theorem dX12_advance_70 : decode cX12_advance 70 = .ok (.aload_n 0, 1) := by decide +kernel
theorem dX12_advance_71 : decode cX12_advance 71 = .ok (.iconst 0, 1) := by decide +kernel
theorem dX12_advance_72 : decode cX12_advance 72 = .ok (.putfield 226, 3) := by decide +kernel
theorem dX12_advance_75 : decode cX12_advance 75 = .ok (.goto 207, 3) := by decide +kernel
set_option maxHeartbeats 4000000 in
set_option maxRecDepth 20000 in
theorem c_X12_advance (d : Nat) {b : Nat} {σ : MS} (hR : RG σ) (htl : (0 ≤ σ.1 20 ∧ σ.1 20 ≤ σ.1 21) ∧ σ.1 21 ≤ 1200) : Tm (d + 5) m_X12_advance 0 b σ [(0, .ref b)] [] (fun ro σ2 => ro = none ∧ (ADVm σ σ2) ∧ (Fr [19, 20, 22, 23] [] [24] σ σ2) ∧ (RG σ2) ∧ (TOK σ2) ∧ (σ.1 20 ≤ σ2.1 19)) := by
  refine tm_sub [0] rfl (l_adv0 (d + 3) (σ0 := σ) (p0 := (wsp (sv σ) (σ.1 20))) hR (by omega) (fun σ6 F2 R3 f4 f5 => ?_) _ σ Fr.rfl hR (by omega) rfl rfl)
  show Tm _ _ 39 b σ6 [(0, .ref b)] [] _
  have hA0 := f4
  have hA := f5
  have svA : sv σ6 = sv σ := sv_fr (show Fr [20] [] [] σ σ6 from (Fr.rfl.trans (Fr.sub F2 (by decide) (by decide) (by decide)))) (by decide) (by decide)
  have sA_ : σ6.1 21 = σ.1 21 := F2.1 21 (by decide)
  refine tm_aload_n dX12_advance_39 rfl 0 rfl ?_
  refine tm_aload_n dX12_advance_40 rfl 0 rfl ?_
  refine tm_getS (k := 20) (t := σ6.1 20) dX12_advance_41 (by decide) fl12_210 rfl (rfl) ?_
  have g7 := RG.s R3 20
  refine tm_putS (k := 19) (v := σ6.1 20) lay_12 dX12_advance_44 (by decide) fl12_216 rfl (tyX12_ok 19 (by decide)) rfl rfl rfl ?_
  refine tm_aload_n dX12_advance_47 rfl 0 rfl ?_
  refine tm_aload_n dX12_advance_48 rfl 0 rfl ?_
  refine tm_getS (k := 20) (t := σ6.1 20) dX12_advance_49 (by decide) fl12_210 rfl (rs_o (by decide) (rfl)) ?_
  have g8 := RG.s R3 20
  refine tm_callV (M := m_X12_advance) (pc := 52) (ix := 213) (M' := m_X12_see) (As := [.int (iI (σ6.1 20))]) (rest := []) dX12_advance_52 ok_X12_see im_X12_see se_X12_see ml12_213 np_X12_see rfl rfl (Nat.le_of_ble_eq_true rfl) (Nat.le_of_ble_eq_true rfl) rfl (c_X12_see (d + 3) (σ := (sS 19 (σ6.1 20) σ6)) (k := σ6.1 20) (R3.S (by omega)) (by omega) (by rw [show (sS 19 (σ6.1 20) σ6).1 21 = σ.1 21 from rs_o (by decide) (rs_F F2 (by decide) (rfl))]; omega)) (fun r9 σ10 hp => ?_)
  obtain ⟨v11, rfl, rfl, f12, f13, f14⟩ := hp
  show Tm _ _ 55 b (sS 19 (σ6.1 20) σ6) [(0, .ref b)] [.int (iI v11)] _
  have hc : v11 = sv σ (σ6.1 20) := by rw [f12]; exact congrFun svA _
  have hcr := f13
  have hcl := f14
  rw [show (sS 19 (σ6.1 20) σ6).1 21 = σ.1 21 from rs_o (by decide) (rs_F F2 (by decide) (rfl))] at hcl
  refine tm_istore_n (L' := [(1, .int (iI v11)), (0, .ref b)]) dX12_advance_55 rfl (by decide) rfl ?_
  refine tm_aload_n dX12_advance_56 rfl 1 rfl ?_
  refine tm_lconst (v := 0) dX12_advance_57 rfl ?_
  refine tm_putW lay_12 dX12_advance_58 fl12_219 ?_
  refine tm_aload_n dX12_advance_61 rfl 1 rfl ?_
  refine tm_iload_n dX12_advance_62 rfl 0 rfl ?_
  refine tm_putS (k := 23) (v := v11) lay_12 dX12_advance_63 (by decide) fl12_223 rfl (tyX12_ok 23 (by decide)) rfl rfl rfl ?_
  refine tm_iload_n dX12_advance_66 rfl 0 rfl ?_
  refine tm_if_ge (tgt := 78) dX12_advance_67 (by decide) ⟨by omega, by omega⟩ (fun h15 => ?_) (fun h15 => ?_)
  · refine tm_iload_n dX12_advance_78 rfl 0 rfl ?_
    refine tm_callS (M := m_X12_advance) (pc := 79) (ix := 229) (M' := m_X12_isLetter) (As := [.int (iI v11)]) (rest := []) dX12_advance_79 ok_X12_isLetter stt_X12_isLetter ml12_229 np_X12_isLetter rfl (Nat.le_of_ble_eq_true rfl) (Nat.le_of_ble_eq_true rfl) rfl (c_X12_isLetter (d + 2) (σ := (sS 23 v11 (sJ 24 0 (0) (sS 19 (σ6.1 20) σ6)))) (x := v11) (by omega)) (fun r16 σ17 hp => ?_)
    obtain ⟨v18, rfl, rfl, f19, f20⟩ := hp
    show Tm _ _ 82 b (sS 23 v11 (sJ 24 0 (0) (sS 19 (σ6.1 20) σ6))) [(1, .int (iI v11)), (0, .ref b)] [.int (iI v18)] _
    refine tm_if_eq (tgt := 156) dX12_advance_82 (by decide) ⟨by omega, by omega⟩ (fun h21 => ?_) (fun h21 => ?_)
    · refine tm_iload_n dX12_advance_156 rfl 0 rfl ?_
      refine tm_callS (M := m_X12_advance) (pc := 157) (ix := 232) (M' := m_X12_isDigit) (As := [.int (iI v11)]) (rest := []) dX12_advance_157 ok_X12_isDigit stt_X12_isDigit ml12_232 np_X12_isDigit rfl (Nat.le_of_ble_eq_true rfl) (Nat.le_of_ble_eq_true rfl) rfl (c_X12_isDigit (d + 2) (σ := (sS 23 v11 (sJ 24 0 (0) (sS 19 (σ6.1 20) σ6)))) (x := v11) (by omega)) (fun r22 σ23 hp => ?_)
      obtain ⟨v24, rfl, rfl, f25, f26⟩ := hp
      show Tm _ _ 160 b (sS 23 v11 (sJ 24 0 (0) (sS 19 (σ6.1 20) σ6))) [(1, .int (iI v11)), (0, .ref b)] [.int (iI v24)] _
      refine tm_if_eq (tgt := 254) dX12_advance_160 (by decide) ⟨by omega, by omega⟩ (fun h27 => ?_) (fun h27 => ?_)
      · refine tm_aload_n dX12_advance_254 rfl 1 rfl ?_
        refine tm_dup dX12_advance_255 rfl ?_
        refine tm_getS (k := 20) (t := σ6.1 20) dX12_advance_256 (by decide) fl12_210 rfl (rs_o (by decide) (rs_J (rs_o (by decide) (rfl)))) ?_
        have g28 := RG.s R3 20
        refine tm_iconst dX12_advance_259 ?_
        refine tm_iadd dX12_advance_260 ?_
        refine tm_putS (k := 20) (v := (σ6.1 20) + 1) lay_12 dX12_advance_261 (by decide) fl12_210 rfl (tyX12_ok 20 (by decide)) rfl rfl rfl ?_
        refine tm_aload_n dX12_advance_264 rfl 1 rfl ?_
        refine tm_signs (d := d + 1) (q := 0) (z := v11) rfl dX12_advance_265 dX12_advance_267 dX12_advance_268 rfl (by omega) (Nat.le_of_ble_eq_true rfl) ?_
        have hsg_ := sgZ_r (v11)
        refine tm_if_lt (tgt := 278) dX12_advance_271 (by decide) ⟨by omega, by omega⟩ (fun h29 => ?_) (fun h29 => ?_)
        · refine tm_iconst dX12_advance_278 ?_
          refine tm_putS (k := 22) (v := 1) lay_12 dX12_advance_279 (by decide) fl12_226 rfl (tyX12_ok 22 (by decide)) rfl rfl rfl ?_
          exact tm_vret rfl dX12_advance_282 (⟨rfl, ⟨by unfold tks advT; rw [← hA, show (sS 22 1 (sS 20 ((σ6.1 20) + 1) (sS 23 v11 (sJ 24 0 (0) (sS 19 (σ6.1 20) σ6))))).1 19 = σ6.1 20 from rs_o (by decide) (rs_o (by decide) (rs_o (by decide) (rs_J (rs_eq)))), show (sS 22 1 (sS 20 ((σ6.1 20) + 1) (sS 23 v11 (sJ 24 0 (0) (sS 19 (σ6.1 20) σ6))))).1 20 = (σ6.1 20) + 1 from rs_o (by decide) (rs_eq), show (sS 22 1 (sS 20 ((σ6.1 20) + 1) (sS 23 v11 (sJ 24 0 (0) (sS 19 (σ6.1 20) σ6))))).1 22 = 1 from rs_eq, show (sS 22 1 (sS 20 ((σ6.1 20) + 1) (sS 23 v11 (sJ 24 0 (0) (sS 19 (σ6.1 20) σ6))))).1 23 = v11 from rs_o (by decide) (rs_o (by decide) (rs_eq)), show (sS 22 1 (sS 20 ((σ6.1 20) + 1) (sS 23 v11 (sJ 24 0 (0) (sS 19 (σ6.1 20) σ6))))).2.2 24 0 = 0 from rj_S (rj_S (rj_S (rj_eq)))]; exact (advP_sgn hc (by omega) (by omega) (by omega) |>.trans (by rw [if_pos (by omega)])).symm, by unfold xs; rw [(show Fr [19, 20, 22, 23] [] [24] σ (sS 22 1 (sS 20 ((σ6.1 20) + 1) (sS 23 v11 (sJ 24 0 (0) (sS 19 (σ6.1 20) σ6))))) from ((((((Fr.rfl.trans (Fr.sub F2 (by decide) (by decide) (by decide))).S (by decide)).J (by decide)).S (by decide)).S (by decide)).S (by decide))).1 28 (by decide), (show Fr [19, 20, 22, 23] [] [24] σ (sS 22 1 (sS 20 ((σ6.1 20) + 1) (sS 23 v11 (sJ 24 0 (0) (sS 19 (σ6.1 20) σ6))))) from ((((((Fr.rfl.trans (Fr.sub F2 (by decide) (by decide) (by decide))).S (by decide)).J (by decide)).S (by decide)).S (by decide)).S (by decide))).1 29 (by decide), (show Fr [19, 20, 22, 23] [] [24] σ (sS 22 1 (sS 20 ((σ6.1 20) + 1) (sS 23 v11 (sJ 24 0 (0) (sS 19 (σ6.1 20) σ6))))) from ((((((Fr.rfl.trans (Fr.sub F2 (by decide) (by decide) (by decide))).S (by decide)).J (by decide)).S (by decide)).S (by decide)).S (by decide))).1 34 (by decide)], sv_fr (show Fr [19, 20, 22, 23] [] [24] σ (sS 22 1 (sS 20 ((σ6.1 20) + 1) (sS 23 v11 (sJ 24 0 (0) (sS 19 (σ6.1 20) σ6))))) from ((((((Fr.rfl.trans (Fr.sub F2 (by decide) (by decide) (by decide))).S (by decide)).J (by decide)).S (by decide)).S (by decide)).S (by decide))) (by decide) (by decide), srt_fr (show Fr [19, 20, 22, 23] [] [24] σ (sS 22 1 (sS 20 ((σ6.1 20) + 1) (sS 23 v11 (sJ 24 0 (0) (sS 19 (σ6.1 20) σ6))))) from ((((((Fr.rfl.trans (Fr.sub F2 (by decide) (by decide) (by decide))).S (by decide)).J (by decide)).S (by decide)).S (by decide)).S (by decide))) (by decide) (by decide) (by decide)⟩, ((((((Fr.rfl.trans (Fr.sub F2 (by decide) (by decide) (by decide))).S (by decide)).J (by decide)).S (by decide)).S (by decide)).S (by decide)), (((((R3.S (by omega)).J).S (by omega)).S (by omega)).S (by omega)), by unfold TOK; rw [show (sS 22 1 (sS 20 ((σ6.1 20) + 1) (sS 23 v11 (sJ 24 0 (0) (sS 19 (σ6.1 20) σ6))))).1 19 = σ6.1 20 from rs_o (by decide) (rs_o (by decide) (rs_o (by decide) (rs_J (rs_eq)))), show (sS 22 1 (sS 20 ((σ6.1 20) + 1) (sS 23 v11 (sJ 24 0 (0) (sS 19 (σ6.1 20) σ6))))).1 20 = (σ6.1 20) + 1 from rs_o (by decide) (rs_eq), show (sS 22 1 (sS 20 ((σ6.1 20) + 1) (sS 23 v11 (sJ 24 0 (0) (sS 19 (σ6.1 20) σ6))))).1 22 = 1 from rs_eq, show (sS 22 1 (sS 20 ((σ6.1 20) + 1) (sS 23 v11 (sJ 24 0 (0) (sS 19 (σ6.1 20) σ6))))).1 23 = v11 from rs_o (by decide) (rs_o (by decide) (rs_eq)), show (sS 22 1 (sS 20 ((σ6.1 20) + 1) (sS 23 v11 (sJ 24 0 (0) (sS 19 (σ6.1 20) σ6))))).1 21 = σ.1 21 from rs_o (by decide) (rs_o (by decide) (rs_o (by decide) (rs_J (rs_o (by decide) (rs_F F2 (by decide) (rfl))))))]; omega, by rw [show (sS 22 1 (sS 20 ((σ6.1 20) + 1) (sS 23 v11 (sJ 24 0 (0) (sS 19 (σ6.1 20) σ6))))).1 19 = σ6.1 20 from rs_o (by decide) (rs_o (by decide) (rs_o (by decide) (rs_J (rs_eq))))]; omega⟩)
        · refine tm_iconst dX12_advance_274 ?_
          refine tm_goto (tgt := 279) dX12_advance_275 (by decide) ?_
          refine tm_putS (k := 22) (v := 4) lay_12 dX12_advance_279 (by decide) fl12_226 rfl (tyX12_ok 22 (by decide)) rfl rfl rfl ?_
          exact tm_vret rfl dX12_advance_282 (⟨rfl, ⟨by unfold tks advT; rw [← hA, show (sS 22 4 (sS 20 ((σ6.1 20) + 1) (sS 23 v11 (sJ 24 0 (0) (sS 19 (σ6.1 20) σ6))))).1 19 = σ6.1 20 from rs_o (by decide) (rs_o (by decide) (rs_o (by decide) (rs_J (rs_eq)))), show (sS 22 4 (sS 20 ((σ6.1 20) + 1) (sS 23 v11 (sJ 24 0 (0) (sS 19 (σ6.1 20) σ6))))).1 20 = (σ6.1 20) + 1 from rs_o (by decide) (rs_eq), show (sS 22 4 (sS 20 ((σ6.1 20) + 1) (sS 23 v11 (sJ 24 0 (0) (sS 19 (σ6.1 20) σ6))))).1 22 = 4 from rs_eq, show (sS 22 4 (sS 20 ((σ6.1 20) + 1) (sS 23 v11 (sJ 24 0 (0) (sS 19 (σ6.1 20) σ6))))).1 23 = v11 from rs_o (by decide) (rs_o (by decide) (rs_eq)), show (sS 22 4 (sS 20 ((σ6.1 20) + 1) (sS 23 v11 (sJ 24 0 (0) (sS 19 (σ6.1 20) σ6))))).2.2 24 0 = 0 from rj_S (rj_S (rj_S (rj_eq)))]; exact (advP_sgn hc (by omega) (by omega) (by omega) |>.trans (by rw [if_neg (by omega)])).symm, by unfold xs; rw [(show Fr [19, 20, 22, 23] [] [24] σ (sS 22 4 (sS 20 ((σ6.1 20) + 1) (sS 23 v11 (sJ 24 0 (0) (sS 19 (σ6.1 20) σ6))))) from ((((((Fr.rfl.trans (Fr.sub F2 (by decide) (by decide) (by decide))).S (by decide)).J (by decide)).S (by decide)).S (by decide)).S (by decide))).1 28 (by decide), (show Fr [19, 20, 22, 23] [] [24] σ (sS 22 4 (sS 20 ((σ6.1 20) + 1) (sS 23 v11 (sJ 24 0 (0) (sS 19 (σ6.1 20) σ6))))) from ((((((Fr.rfl.trans (Fr.sub F2 (by decide) (by decide) (by decide))).S (by decide)).J (by decide)).S (by decide)).S (by decide)).S (by decide))).1 29 (by decide), (show Fr [19, 20, 22, 23] [] [24] σ (sS 22 4 (sS 20 ((σ6.1 20) + 1) (sS 23 v11 (sJ 24 0 (0) (sS 19 (σ6.1 20) σ6))))) from ((((((Fr.rfl.trans (Fr.sub F2 (by decide) (by decide) (by decide))).S (by decide)).J (by decide)).S (by decide)).S (by decide)).S (by decide))).1 34 (by decide)], sv_fr (show Fr [19, 20, 22, 23] [] [24] σ (sS 22 4 (sS 20 ((σ6.1 20) + 1) (sS 23 v11 (sJ 24 0 (0) (sS 19 (σ6.1 20) σ6))))) from ((((((Fr.rfl.trans (Fr.sub F2 (by decide) (by decide) (by decide))).S (by decide)).J (by decide)).S (by decide)).S (by decide)).S (by decide))) (by decide) (by decide), srt_fr (show Fr [19, 20, 22, 23] [] [24] σ (sS 22 4 (sS 20 ((σ6.1 20) + 1) (sS 23 v11 (sJ 24 0 (0) (sS 19 (σ6.1 20) σ6))))) from ((((((Fr.rfl.trans (Fr.sub F2 (by decide) (by decide) (by decide))).S (by decide)).J (by decide)).S (by decide)).S (by decide)).S (by decide))) (by decide) (by decide) (by decide)⟩, ((((((Fr.rfl.trans (Fr.sub F2 (by decide) (by decide) (by decide))).S (by decide)).J (by decide)).S (by decide)).S (by decide)).S (by decide)), (((((R3.S (by omega)).J).S (by omega)).S (by omega)).S (by omega)), by unfold TOK; rw [show (sS 22 4 (sS 20 ((σ6.1 20) + 1) (sS 23 v11 (sJ 24 0 (0) (sS 19 (σ6.1 20) σ6))))).1 19 = σ6.1 20 from rs_o (by decide) (rs_o (by decide) (rs_o (by decide) (rs_J (rs_eq)))), show (sS 22 4 (sS 20 ((σ6.1 20) + 1) (sS 23 v11 (sJ 24 0 (0) (sS 19 (σ6.1 20) σ6))))).1 20 = (σ6.1 20) + 1 from rs_o (by decide) (rs_eq), show (sS 22 4 (sS 20 ((σ6.1 20) + 1) (sS 23 v11 (sJ 24 0 (0) (sS 19 (σ6.1 20) σ6))))).1 22 = 4 from rs_eq, show (sS 22 4 (sS 20 ((σ6.1 20) + 1) (sS 23 v11 (sJ 24 0 (0) (sS 19 (σ6.1 20) σ6))))).1 23 = v11 from rs_o (by decide) (rs_o (by decide) (rs_eq)), show (sS 22 4 (sS 20 ((σ6.1 20) + 1) (sS 23 v11 (sJ 24 0 (0) (sS 19 (σ6.1 20) σ6))))).1 21 = σ.1 21 from rs_o (by decide) (rs_o (by decide) (rs_o (by decide) (rs_J (rs_o (by decide) (rs_F F2 (by decide) (rfl))))))]; omega, by rw [show (sS 22 4 (sS 20 ((σ6.1 20) + 1) (sS 23 v11 (sJ 24 0 (0) (sS 19 (σ6.1 20) σ6))))).1 19 = σ6.1 20 from rs_o (by decide) (rs_o (by decide) (rs_o (by decide) (rs_J (rs_eq))))]; omega⟩)
      · refine tm_iconst dX12_advance_163 ?_
        refine tm_istore_n (L' := [(2, .int (iI 0)), (1, .int (iI v11)), (0, .ref b)]) dX12_advance_164 rfl (by decide) rfl ?_
        refine tm_aload_n dX12_advance_165 rfl 2 rfl ?_
        refine tm_iconst dX12_advance_166 ?_
        refine tm_putS (k := 23) (v := 0) lay_12 dX12_advance_167 (by decide) fl12_223 rfl (tyX12_ok 23 (by decide)) rfl rfl rfl ?_
        refine tm_sub [0, 1, 2] rfl (l_adv2 (d + 2) (σ0 := (sS 23 0 (sS 23 v11 (sJ 24 0 (0) (sS 19 (σ6.1 20) σ6))))) (c := v11) (R0 := (dgp (sv σ) (σ6.1 20) 0 0)) ((((R3.S (by omega)).J).S (by omega)).S (by omega)) (by rw [show (sS 23 0 (sS 23 v11 (sJ 24 0 (0) (sS 19 (σ6.1 20) σ6)))).1 20 = σ6.1 20 from rs_o (by decide) (rs_o (by decide) (rs_J (rs_o (by decide) (rfl)))), show (sS 23 0 (sS 23 v11 (sJ 24 0 (0) (sS 19 (σ6.1 20) σ6)))).1 21 = σ.1 21 from rs_o (by decide) (rs_o (by decide) (rs_J (rs_o (by decide) (rs_F F2 (by decide) (rfl)))))]; omega) (by omega) (fun n137 σ38 F32 R33 f34 f35 f36 => ?_) _ (0) (sS 23 0 (sS 23 v11 (sJ 24 0 (0) (sS 19 (σ6.1 20) σ6)))) Fr.rfl ((((R3.S (by omega)).J).S (by omega)).S (by omega)) (by rw [show (sS 23 0 (sS 23 v11 (sJ 24 0 (0) (sS 19 (σ6.1 20) σ6)))).1 20 = σ6.1 20 from rs_o (by decide) (rs_o (by decide) (rs_J (rs_o (by decide) (rfl)))), show (sS 23 0 (sS 23 v11 (sJ 24 0 (0) (sS 19 (σ6.1 20) σ6)))).1 21 = σ.1 21 from rs_o (by decide) (rs_o (by decide) (rs_J (rs_o (by decide) (rs_F F2 (by decide) (rfl)))))]; omega) (fun _ => by rw [show sv (sS 23 0 (sS 23 v11 (sJ 24 0 (0) (sS 19 (σ6.1 20) σ6)))) = sv σ from sv_fr (show Fr [19, 20, 23] [] [24] σ (sS 23 0 (sS 23 v11 (sJ 24 0 (0) (sS 19 (σ6.1 20) σ6)))) from (((((Fr.rfl.trans (Fr.sub F2 (by decide) (by decide) (by decide))).S (by decide)).J (by decide)).S (by decide)).S (by decide))) (by decide) (by decide)]; exact hc) (by rw [show (sS 23 0 (sS 23 v11 (sJ 24 0 (0) (sS 19 (σ6.1 20) σ6)))).1 23 = 0 from rs_eq]; omega) (by rw [show sv (sS 23 0 (sS 23 v11 (sJ 24 0 (0) (sS 19 (σ6.1 20) σ6)))) = sv σ from sv_fr (show Fr [19, 20, 23] [] [24] σ (sS 23 0 (sS 23 v11 (sJ 24 0 (0) (sS 19 (σ6.1 20) σ6)))) from (((((Fr.rfl.trans (Fr.sub F2 (by decide) (by decide) (by decide))).S (by decide)).J (by decide)).S (by decide)).S (by decide))) (by decide) (by decide)]; rfl) rfl)
        show Tm _ _ 236 b σ38 [(2, .int (iI n137)), (1, .int (iI v11)), (0, .ref b)] [] _
        have hB0 := f34
        rw [show (sS 23 0 (sS 23 v11 (sJ 24 0 (0) (sS 19 (σ6.1 20) σ6)))).1 20 = σ6.1 20 from rs_o (by decide) (rs_o (by decide) (rs_J (rs_o (by decide) (rfl)))), show (sS 23 0 (sS 23 v11 (sJ 24 0 (0) (sS 19 (σ6.1 20) σ6)))).1 21 = σ.1 21 from rs_o (by decide) (rs_o (by decide) (rs_J (rs_o (by decide) (rs_F F2 (by decide) (rfl)))))] at hB0
        have hB := f36
        have hBv := f35
        refine tm_aload_n dX12_advance_236 rfl 2 rfl ?_
        refine tm_iload_n dX12_advance_237 rfl 0 rfl ?_
        refine tm_bipush dX12_advance_238 (by decide) ?_
        refine tm_icmp_le (tgt := 247) dX12_advance_240 (by decide) ⟨by omega, by omega⟩ ⟨by decide, by decide⟩ (fun h39 => ?_) (fun h39 => ?_)
        · refine tm_iconst dX12_advance_247 ?_
          refine tm_putS (k := 22) (v := 3) lay_12 dX12_advance_248 (by decide) fl12_226 rfl (tyX12_ok 22 (by decide)) rfl rfl rfl ?_
          refine tm_goto (tgt := 282) dX12_advance_251 (by decide) ?_
          exact tm_vret rfl dX12_advance_282 (⟨rfl, ⟨by unfold tks advT; rw [← hA, show (sS 22 3 σ38).1 19 = σ6.1 20 from rs_o (by decide) (rs_F F32 (by decide) (rs_o (by decide) (rs_o (by decide) (rs_J (rs_eq))))), show (sS 22 3 σ38).1 20 = σ38.1 20 from rs_o (by decide) (rfl), show (sS 22 3 σ38).1 22 = 3 from rs_eq, show (sS 22 3 σ38).1 23 = σ38.1 23 from rs_o (by decide) (rfl), show (sS 22 3 σ38).2.2 24 0 = 0 from rj_S (rj_F F32 (by decide) (rj_S (rj_S (rj_eq))))]; exact (advP_dig hc (by omega) (by omega) (by omega) (hB) |>.trans (by rw [if_neg (by omega)])).symm, by unfold xs; rw [(show Fr [19, 20, 22, 23] [] [24] σ (sS 22 3 σ38) from (((((((Fr.rfl.trans (Fr.sub F2 (by decide) (by decide) (by decide))).S (by decide)).J (by decide)).S (by decide)).S (by decide)).trans (Fr.sub F32 (by decide) (by decide) (by decide))).S (by decide))).1 28 (by decide), (show Fr [19, 20, 22, 23] [] [24] σ (sS 22 3 σ38) from (((((((Fr.rfl.trans (Fr.sub F2 (by decide) (by decide) (by decide))).S (by decide)).J (by decide)).S (by decide)).S (by decide)).trans (Fr.sub F32 (by decide) (by decide) (by decide))).S (by decide))).1 29 (by decide), (show Fr [19, 20, 22, 23] [] [24] σ (sS 22 3 σ38) from (((((((Fr.rfl.trans (Fr.sub F2 (by decide) (by decide) (by decide))).S (by decide)).J (by decide)).S (by decide)).S (by decide)).trans (Fr.sub F32 (by decide) (by decide) (by decide))).S (by decide))).1 34 (by decide)], sv_fr (show Fr [19, 20, 22, 23] [] [24] σ (sS 22 3 σ38) from (((((((Fr.rfl.trans (Fr.sub F2 (by decide) (by decide) (by decide))).S (by decide)).J (by decide)).S (by decide)).S (by decide)).trans (Fr.sub F32 (by decide) (by decide) (by decide))).S (by decide))) (by decide) (by decide), srt_fr (show Fr [19, 20, 22, 23] [] [24] σ (sS 22 3 σ38) from (((((((Fr.rfl.trans (Fr.sub F2 (by decide) (by decide) (by decide))).S (by decide)).J (by decide)).S (by decide)).S (by decide)).trans (Fr.sub F32 (by decide) (by decide) (by decide))).S (by decide))) (by decide) (by decide) (by decide)⟩, (((((((Fr.rfl.trans (Fr.sub F2 (by decide) (by decide) (by decide))).S (by decide)).J (by decide)).S (by decide)).S (by decide)).trans (Fr.sub F32 (by decide) (by decide) (by decide))).S (by decide)), (R33.S (by omega)), by unfold TOK; rw [show (sS 22 3 σ38).1 19 = σ6.1 20 from rs_o (by decide) (rs_F F32 (by decide) (rs_o (by decide) (rs_o (by decide) (rs_J (rs_eq))))), show (sS 22 3 σ38).1 20 = σ38.1 20 from rs_o (by decide) (rfl), show (sS 22 3 σ38).1 22 = 3 from rs_eq, show (sS 22 3 σ38).1 23 = σ38.1 23 from rs_o (by decide) (rfl), show (sS 22 3 σ38).1 21 = σ.1 21 from rs_o (by decide) (rs_F F32 (by decide) (rs_o (by decide) (rs_o (by decide) (rs_J (rs_o (by decide) (rs_F F2 (by decide) (rfl)))))))]; omega, by rw [show (sS 22 3 σ38).1 19 = σ6.1 20 from rs_o (by decide) (rs_F F32 (by decide) (rs_o (by decide) (rs_o (by decide) (rs_J (rs_eq)))))]; omega⟩)
        · refine tm_iconst dX12_advance_243 ?_
          refine tm_goto (tgt := 248) dX12_advance_244 (by decide) ?_
          refine tm_putS (k := 22) (v := 1) lay_12 dX12_advance_248 (by decide) fl12_226 rfl (tyX12_ok 22 (by decide)) rfl rfl rfl ?_
          refine tm_goto (tgt := 282) dX12_advance_251 (by decide) ?_
          exact tm_vret rfl dX12_advance_282 (⟨rfl, ⟨by unfold tks advT; rw [← hA, show (sS 22 1 σ38).1 19 = σ6.1 20 from rs_o (by decide) (rs_F F32 (by decide) (rs_o (by decide) (rs_o (by decide) (rs_J (rs_eq))))), show (sS 22 1 σ38).1 20 = σ38.1 20 from rs_o (by decide) (rfl), show (sS 22 1 σ38).1 22 = 1 from rs_eq, show (sS 22 1 σ38).1 23 = σ38.1 23 from rs_o (by decide) (rfl), show (sS 22 1 σ38).2.2 24 0 = 0 from rj_S (rj_F F32 (by decide) (rj_S (rj_S (rj_eq))))]; exact (advP_dig hc (by omega) (by omega) (by omega) (hB) |>.trans (by rw [if_pos (by omega)])).symm, by unfold xs; rw [(show Fr [19, 20, 22, 23] [] [24] σ (sS 22 1 σ38) from (((((((Fr.rfl.trans (Fr.sub F2 (by decide) (by decide) (by decide))).S (by decide)).J (by decide)).S (by decide)).S (by decide)).trans (Fr.sub F32 (by decide) (by decide) (by decide))).S (by decide))).1 28 (by decide), (show Fr [19, 20, 22, 23] [] [24] σ (sS 22 1 σ38) from (((((((Fr.rfl.trans (Fr.sub F2 (by decide) (by decide) (by decide))).S (by decide)).J (by decide)).S (by decide)).S (by decide)).trans (Fr.sub F32 (by decide) (by decide) (by decide))).S (by decide))).1 29 (by decide), (show Fr [19, 20, 22, 23] [] [24] σ (sS 22 1 σ38) from (((((((Fr.rfl.trans (Fr.sub F2 (by decide) (by decide) (by decide))).S (by decide)).J (by decide)).S (by decide)).S (by decide)).trans (Fr.sub F32 (by decide) (by decide) (by decide))).S (by decide))).1 34 (by decide)], sv_fr (show Fr [19, 20, 22, 23] [] [24] σ (sS 22 1 σ38) from (((((((Fr.rfl.trans (Fr.sub F2 (by decide) (by decide) (by decide))).S (by decide)).J (by decide)).S (by decide)).S (by decide)).trans (Fr.sub F32 (by decide) (by decide) (by decide))).S (by decide))) (by decide) (by decide), srt_fr (show Fr [19, 20, 22, 23] [] [24] σ (sS 22 1 σ38) from (((((((Fr.rfl.trans (Fr.sub F2 (by decide) (by decide) (by decide))).S (by decide)).J (by decide)).S (by decide)).S (by decide)).trans (Fr.sub F32 (by decide) (by decide) (by decide))).S (by decide))) (by decide) (by decide) (by decide)⟩, (((((((Fr.rfl.trans (Fr.sub F2 (by decide) (by decide) (by decide))).S (by decide)).J (by decide)).S (by decide)).S (by decide)).trans (Fr.sub F32 (by decide) (by decide) (by decide))).S (by decide)), (R33.S (by omega)), by unfold TOK; rw [show (sS 22 1 σ38).1 19 = σ6.1 20 from rs_o (by decide) (rs_F F32 (by decide) (rs_o (by decide) (rs_o (by decide) (rs_J (rs_eq))))), show (sS 22 1 σ38).1 20 = σ38.1 20 from rs_o (by decide) (rfl), show (sS 22 1 σ38).1 22 = 1 from rs_eq, show (sS 22 1 σ38).1 23 = σ38.1 23 from rs_o (by decide) (rfl), show (sS 22 1 σ38).1 21 = σ.1 21 from rs_o (by decide) (rs_F F32 (by decide) (rs_o (by decide) (rs_o (by decide) (rs_J (rs_o (by decide) (rs_F F2 (by decide) (rfl)))))))]; omega, by rw [show (sS 22 1 σ38).1 19 = σ6.1 20 from rs_o (by decide) (rs_F F32 (by decide) (rs_o (by decide) (rs_o (by decide) (rs_J (rs_eq)))))]; omega⟩)
    · refine tm_iconst dX12_advance_85 ?_
      refine tm_istore_n (L' := [(2, .int (iI 0)), (1, .int (iI v11)), (0, .ref b)]) dX12_advance_86 rfl (by decide) rfl ?_
      refine tm_sub [0, 1, 2] rfl (l_adv1 (d + 2) (σ0 := (sS 23 v11 (sJ 24 0 (0) (sS 19 (σ6.1 20) σ6)))) (c := v11) (R0 := (ltp (sv σ) (σ6.1 20) 0 0)) (((R3.S (by omega)).J).S (by omega)) (by rw [show (sS 23 v11 (sJ 24 0 (0) (sS 19 (σ6.1 20) σ6))).1 20 = σ6.1 20 from rs_o (by decide) (rs_J (rs_o (by decide) (rfl))), show (sS 23 v11 (sJ 24 0 (0) (sS 19 (σ6.1 20) σ6))).1 21 = σ.1 21 from rs_o (by decide) (rs_J (rs_o (by decide) (rs_F F2 (by decide) (rfl))))]; omega) (by omega) (fun n146 σ47 F42 R43 f44 f45 => ?_) _ (0) (sS 23 v11 (sJ 24 0 (0) (sS 19 (σ6.1 20) σ6))) Fr.rfl (((R3.S (by omega)).J).S (by omega)) (by rw [show (sS 23 v11 (sJ 24 0 (0) (sS 19 (σ6.1 20) σ6))).1 20 = σ6.1 20 from rs_o (by decide) (rs_J (rs_o (by decide) (rfl))), show (sS 23 v11 (sJ 24 0 (0) (sS 19 (σ6.1 20) σ6))).1 21 = σ.1 21 from rs_o (by decide) (rs_J (rs_o (by decide) (rs_F F2 (by decide) (rfl))))]; omega) (fun _ => by rw [show sv (sS 23 v11 (sJ 24 0 (0) (sS 19 (σ6.1 20) σ6))) = sv σ from sv_fr (show Fr [19, 20, 23] [] [24] σ (sS 23 v11 (sJ 24 0 (0) (sS 19 (σ6.1 20) σ6))) from ((((Fr.rfl.trans (Fr.sub F2 (by decide) (by decide) (by decide))).S (by decide)).J (by decide)).S (by decide))) (by decide) (by decide)]; exact hc) (by rw [show sv (sS 23 v11 (sJ 24 0 (0) (sS 19 (σ6.1 20) σ6))) = sv σ from sv_fr (show Fr [19, 20, 23] [] [24] σ (sS 23 v11 (sJ 24 0 (0) (sS 19 (σ6.1 20) σ6))) from ((((Fr.rfl.trans (Fr.sub F2 (by decide) (by decide) (by decide))).S (by decide)).J (by decide)).S (by decide))) (by decide) (by decide)]; rfl) rfl)
      show Tm _ _ 138 b σ47 [(2, .int (iI n146)), (1, .int (iI v11)), (0, .ref b)] [] _
      have hB0 := f44
      rw [show (sS 23 v11 (sJ 24 0 (0) (sS 19 (σ6.1 20) σ6))).1 20 = σ6.1 20 from rs_o (by decide) (rs_J (rs_o (by decide) (rfl))), show (sS 23 v11 (sJ 24 0 (0) (sS 19 (σ6.1 20) σ6))).1 21 = σ.1 21 from rs_o (by decide) (rs_J (rs_o (by decide) (rs_F F2 (by decide) (rfl))))] at hB0
      have hB := f45
      refine tm_aload_n dX12_advance_138 rfl 2 rfl ?_
      refine tm_iload_n dX12_advance_139 rfl 0 rfl ?_
      refine tm_bipush dX12_advance_140 (by decide) ?_
      refine tm_icmp_le (tgt := 149) dX12_advance_142 (by decide) ⟨by omega, by omega⟩ ⟨by decide, by decide⟩ (fun h48 => ?_) (fun h48 => ?_)
      · refine tm_iconst dX12_advance_149 ?_
        refine tm_putS (k := 22) (v := 2) lay_12 dX12_advance_150 (by decide) fl12_226 rfl (tyX12_ok 22 (by decide)) rfl rfl rfl ?_
        refine tm_goto (tgt := 282) dX12_advance_153 (by decide) ?_
        exact tm_vret rfl dX12_advance_282 (⟨rfl, ⟨by unfold tks advT; rw [← hA, show (sS 22 2 σ47).1 19 = σ6.1 20 from rs_o (by decide) (rs_F F42 (by decide) (rs_o (by decide) (rs_J (rs_eq)))), show (sS 22 2 σ47).1 20 = σ47.1 20 from rs_o (by decide) (rfl), show (sS 22 2 σ47).1 22 = 2 from rs_eq, show (sS 22 2 σ47).1 23 = v11 from rs_o (by decide) (rs_F F42 (by decide) (rs_eq)), show (sS 22 2 σ47).2.2 24 0 = σ47.2.2 24 0 from rj_S (rfl)]; exact (advP_let hc (by omega) (by omega) (hB) |>.trans (by rw [if_neg (by omega)])).symm, by unfold xs; rw [(show Fr [19, 20, 22, 23] [] [24] σ (sS 22 2 σ47) from ((((((Fr.rfl.trans (Fr.sub F2 (by decide) (by decide) (by decide))).S (by decide)).J (by decide)).S (by decide)).trans (Fr.sub F42 (by decide) (by decide) (by decide))).S (by decide))).1 28 (by decide), (show Fr [19, 20, 22, 23] [] [24] σ (sS 22 2 σ47) from ((((((Fr.rfl.trans (Fr.sub F2 (by decide) (by decide) (by decide))).S (by decide)).J (by decide)).S (by decide)).trans (Fr.sub F42 (by decide) (by decide) (by decide))).S (by decide))).1 29 (by decide), (show Fr [19, 20, 22, 23] [] [24] σ (sS 22 2 σ47) from ((((((Fr.rfl.trans (Fr.sub F2 (by decide) (by decide) (by decide))).S (by decide)).J (by decide)).S (by decide)).trans (Fr.sub F42 (by decide) (by decide) (by decide))).S (by decide))).1 34 (by decide)], sv_fr (show Fr [19, 20, 22, 23] [] [24] σ (sS 22 2 σ47) from ((((((Fr.rfl.trans (Fr.sub F2 (by decide) (by decide) (by decide))).S (by decide)).J (by decide)).S (by decide)).trans (Fr.sub F42 (by decide) (by decide) (by decide))).S (by decide))) (by decide) (by decide), srt_fr (show Fr [19, 20, 22, 23] [] [24] σ (sS 22 2 σ47) from ((((((Fr.rfl.trans (Fr.sub F2 (by decide) (by decide) (by decide))).S (by decide)).J (by decide)).S (by decide)).trans (Fr.sub F42 (by decide) (by decide) (by decide))).S (by decide))) (by decide) (by decide) (by decide)⟩, ((((((Fr.rfl.trans (Fr.sub F2 (by decide) (by decide) (by decide))).S (by decide)).J (by decide)).S (by decide)).trans (Fr.sub F42 (by decide) (by decide) (by decide))).S (by decide)), (R43.S (by omega)), by unfold TOK; rw [show (sS 22 2 σ47).1 19 = σ6.1 20 from rs_o (by decide) (rs_F F42 (by decide) (rs_o (by decide) (rs_J (rs_eq)))), show (sS 22 2 σ47).1 20 = σ47.1 20 from rs_o (by decide) (rfl), show (sS 22 2 σ47).1 22 = 2 from rs_eq, show (sS 22 2 σ47).1 23 = v11 from rs_o (by decide) (rs_F F42 (by decide) (rs_eq)), show (sS 22 2 σ47).1 21 = σ.1 21 from rs_o (by decide) (rs_F F42 (by decide) (rs_o (by decide) (rs_J (rs_o (by decide) (rs_F F2 (by decide) (rfl))))))]; omega, by rw [show (sS 22 2 σ47).1 19 = σ6.1 20 from rs_o (by decide) (rs_F F42 (by decide) (rs_o (by decide) (rs_J (rs_eq))))]; omega⟩)
      · refine tm_iconst dX12_advance_145 ?_
        refine tm_goto (tgt := 150) dX12_advance_146 (by decide) ?_
        refine tm_putS (k := 22) (v := 1) lay_12 dX12_advance_150 (by decide) fl12_226 rfl (tyX12_ok 22 (by decide)) rfl rfl rfl ?_
        refine tm_goto (tgt := 282) dX12_advance_153 (by decide) ?_
        exact tm_vret rfl dX12_advance_282 (⟨rfl, ⟨by unfold tks advT; rw [← hA, show (sS 22 1 σ47).1 19 = σ6.1 20 from rs_o (by decide) (rs_F F42 (by decide) (rs_o (by decide) (rs_J (rs_eq)))), show (sS 22 1 σ47).1 20 = σ47.1 20 from rs_o (by decide) (rfl), show (sS 22 1 σ47).1 22 = 1 from rs_eq, show (sS 22 1 σ47).1 23 = v11 from rs_o (by decide) (rs_F F42 (by decide) (rs_eq)), show (sS 22 1 σ47).2.2 24 0 = σ47.2.2 24 0 from rj_S (rfl)]; exact (advP_let hc (by omega) (by omega) (hB) |>.trans (by rw [if_pos (by omega)])).symm, by unfold xs; rw [(show Fr [19, 20, 22, 23] [] [24] σ (sS 22 1 σ47) from ((((((Fr.rfl.trans (Fr.sub F2 (by decide) (by decide) (by decide))).S (by decide)).J (by decide)).S (by decide)).trans (Fr.sub F42 (by decide) (by decide) (by decide))).S (by decide))).1 28 (by decide), (show Fr [19, 20, 22, 23] [] [24] σ (sS 22 1 σ47) from ((((((Fr.rfl.trans (Fr.sub F2 (by decide) (by decide) (by decide))).S (by decide)).J (by decide)).S (by decide)).trans (Fr.sub F42 (by decide) (by decide) (by decide))).S (by decide))).1 29 (by decide), (show Fr [19, 20, 22, 23] [] [24] σ (sS 22 1 σ47) from ((((((Fr.rfl.trans (Fr.sub F2 (by decide) (by decide) (by decide))).S (by decide)).J (by decide)).S (by decide)).trans (Fr.sub F42 (by decide) (by decide) (by decide))).S (by decide))).1 34 (by decide)], sv_fr (show Fr [19, 20, 22, 23] [] [24] σ (sS 22 1 σ47) from ((((((Fr.rfl.trans (Fr.sub F2 (by decide) (by decide) (by decide))).S (by decide)).J (by decide)).S (by decide)).trans (Fr.sub F42 (by decide) (by decide) (by decide))).S (by decide))) (by decide) (by decide), srt_fr (show Fr [19, 20, 22, 23] [] [24] σ (sS 22 1 σ47) from ((((((Fr.rfl.trans (Fr.sub F2 (by decide) (by decide) (by decide))).S (by decide)).J (by decide)).S (by decide)).trans (Fr.sub F42 (by decide) (by decide) (by decide))).S (by decide))) (by decide) (by decide) (by decide)⟩, ((((((Fr.rfl.trans (Fr.sub F2 (by decide) (by decide) (by decide))).S (by decide)).J (by decide)).S (by decide)).trans (Fr.sub F42 (by decide) (by decide) (by decide))).S (by decide)), (R43.S (by omega)), by unfold TOK; rw [show (sS 22 1 σ47).1 19 = σ6.1 20 from rs_o (by decide) (rs_F F42 (by decide) (rs_o (by decide) (rs_J (rs_eq)))), show (sS 22 1 σ47).1 20 = σ47.1 20 from rs_o (by decide) (rfl), show (sS 22 1 σ47).1 22 = 1 from rs_eq, show (sS 22 1 σ47).1 23 = v11 from rs_o (by decide) (rs_F F42 (by decide) (rs_eq)), show (sS 22 1 σ47).1 21 = σ.1 21 from rs_o (by decide) (rs_F F42 (by decide) (rs_o (by decide) (rs_J (rs_o (by decide) (rs_F F2 (by decide) (rfl))))))]; omega, by rw [show (sS 22 1 σ47).1 19 = σ6.1 20 from rs_o (by decide) (rs_F F42 (by decide) (rs_o (by decide) (rs_J (rs_eq))))]; omega⟩)
  · refine tm_aload_n dX12_advance_70 rfl 1 rfl ?_
    refine tm_iconst dX12_advance_71 ?_
    refine tm_putS (k := 22) (v := 0) lay_12 dX12_advance_72 (by decide) fl12_226 rfl (tyX12_ok 22 (by decide)) rfl rfl rfl ?_
    refine tm_goto (tgt := 282) dX12_advance_75 (by decide) ?_
    exact tm_vret rfl dX12_advance_282 (⟨rfl, ⟨by unfold tks advT; rw [← hA, show (sS 22 0 (sS 23 v11 (sJ 24 0 (0) (sS 19 (σ6.1 20) σ6)))).1 19 = σ6.1 20 from rs_o (by decide) (rs_o (by decide) (rs_J (rs_eq))), show (sS 22 0 (sS 23 v11 (sJ 24 0 (0) (sS 19 (σ6.1 20) σ6)))).1 20 = σ6.1 20 from rs_o (by decide) (rs_o (by decide) (rs_J (rs_o (by decide) (rfl)))), show (sS 22 0 (sS 23 v11 (sJ 24 0 (0) (sS 19 (σ6.1 20) σ6)))).1 22 = 0 from rs_eq, show (sS 22 0 (sS 23 v11 (sJ 24 0 (0) (sS 19 (σ6.1 20) σ6)))).1 23 = v11 from rs_o (by decide) (rs_eq), show (sS 22 0 (sS 23 v11 (sJ 24 0 (0) (sS 19 (σ6.1 20) σ6)))).2.2 24 0 = 0 from rj_S (rj_S (rj_eq))]; exact (advP_end hc (by omega)).symm, by unfold xs; rw [(show Fr [19, 20, 22, 23] [] [24] σ (sS 22 0 (sS 23 v11 (sJ 24 0 (0) (sS 19 (σ6.1 20) σ6)))) from (((((Fr.rfl.trans (Fr.sub F2 (by decide) (by decide) (by decide))).S (by decide)).J (by decide)).S (by decide)).S (by decide))).1 28 (by decide), (show Fr [19, 20, 22, 23] [] [24] σ (sS 22 0 (sS 23 v11 (sJ 24 0 (0) (sS 19 (σ6.1 20) σ6)))) from (((((Fr.rfl.trans (Fr.sub F2 (by decide) (by decide) (by decide))).S (by decide)).J (by decide)).S (by decide)).S (by decide))).1 29 (by decide), (show Fr [19, 20, 22, 23] [] [24] σ (sS 22 0 (sS 23 v11 (sJ 24 0 (0) (sS 19 (σ6.1 20) σ6)))) from (((((Fr.rfl.trans (Fr.sub F2 (by decide) (by decide) (by decide))).S (by decide)).J (by decide)).S (by decide)).S (by decide))).1 34 (by decide)], sv_fr (show Fr [19, 20, 22, 23] [] [24] σ (sS 22 0 (sS 23 v11 (sJ 24 0 (0) (sS 19 (σ6.1 20) σ6)))) from (((((Fr.rfl.trans (Fr.sub F2 (by decide) (by decide) (by decide))).S (by decide)).J (by decide)).S (by decide)).S (by decide))) (by decide) (by decide), srt_fr (show Fr [19, 20, 22, 23] [] [24] σ (sS 22 0 (sS 23 v11 (sJ 24 0 (0) (sS 19 (σ6.1 20) σ6)))) from (((((Fr.rfl.trans (Fr.sub F2 (by decide) (by decide) (by decide))).S (by decide)).J (by decide)).S (by decide)).S (by decide))) (by decide) (by decide) (by decide)⟩, (((((Fr.rfl.trans (Fr.sub F2 (by decide) (by decide) (by decide))).S (by decide)).J (by decide)).S (by decide)).S (by decide)), ((((R3.S (by omega)).J).S (by omega)).S (by omega)), by unfold TOK; rw [show (sS 22 0 (sS 23 v11 (sJ 24 0 (0) (sS 19 (σ6.1 20) σ6)))).1 19 = σ6.1 20 from rs_o (by decide) (rs_o (by decide) (rs_J (rs_eq))), show (sS 22 0 (sS 23 v11 (sJ 24 0 (0) (sS 19 (σ6.1 20) σ6)))).1 20 = σ6.1 20 from rs_o (by decide) (rs_o (by decide) (rs_J (rs_o (by decide) (rfl)))), show (sS 22 0 (sS 23 v11 (sJ 24 0 (0) (sS 19 (σ6.1 20) σ6)))).1 22 = 0 from rs_eq, show (sS 22 0 (sS 23 v11 (sJ 24 0 (0) (sS 19 (σ6.1 20) σ6)))).1 23 = v11 from rs_o (by decide) (rs_eq), show (sS 22 0 (sS 23 v11 (sJ 24 0 (0) (sS 19 (σ6.1 20) σ6)))).1 21 = σ.1 21 from rs_o (by decide) (rs_o (by decide) (rs_J (rs_o (by decide) (rs_F F2 (by decide) (rfl)))))]; omega, by rw [show (sS 22 0 (sS 23 v11 (sJ 24 0 (0) (sS 19 (σ6.1 20) σ6)))).1 19 = σ6.1 20 from rs_o (by decide) (rs_o (by decide) (rs_J (rs_eq)))]; omega⟩)
