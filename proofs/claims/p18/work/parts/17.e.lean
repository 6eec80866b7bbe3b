section
theorem ml12_317 : Cond.methodLink RX12 317 yX12_signed ∈ pWW := pw8 (List.mem_of_getElem? (i := 229) rfl) rfl
theorem dX12_product_9 : decode cX12_product 9 = .ok (.aload_n 0, 1) := by decide +kernel
theorem dX12_product_10 : decode cX12_product 10 = .ok (.bipush 42, 2) := by decide +kernel
theorem dX12_product_12 : decode cX12_product 12 = .ok (.invokevirtual 258, 3) := by decide +kernel
theorem dX12_product_15 : decode cX12_product 15 = .ok (.ifCond .eq 44, 3) := by decide +kernel
theorem dX12_product_18 : decode cX12_product 18 = .ok (.aload_n 0, 1) := by decide +kernel
theorem dX12_product_19 : decode cX12_product 19 = .ok (.getfield 285, 3) := by decide +kernel
theorem dX12_product_22 : decode cX12_product 22 = .ok (.istore_n 2, 1) := by decide +kernel
theorem dX12_product_23 : decode cX12_product 23 = .ok (.aload_n 0, 1) := by decide +kernel
theorem dX12_product_24 : decode cX12_product 24 = .ok (.getfield 288, 3) := by decide +kernel
theorem dX12_product_27 : decode cX12_product 27 = .ok (.istore_n 3, 1) := by decide +kernel
theorem dX12_product_28 : decode cX12_product 28 = .ok (.aload_n 0, 1) := by decide +kernel
theorem dX12_product_29 : decode cX12_product 29 = .ok (.invokevirtual 265, 3) := by decide +kernel
theorem dX12_product_32 : decode cX12_product 32 = .ok (.aload_n 0, 1) := by decide +kernel
theorem dX12_product_33 : decode cX12_product 33 = .ok (.invokevirtual 317, 3) := by decide +kernel
theorem dX12_product_36 : decode cX12_product 36 = .ok (.istore_n 1, 1) := by decide +kernel
theorem dX12_product_37 : decode cX12_product 37 = .ok (.iload_n 1, 1) := by decide +kernel
theorem dX12_product_38 : decode cX12_product 38 = .ok (.ifCond .eq 18, 3) := by decide +kernel
theorem dX12_product_56 : decode cX12_product 56 = .ok (.goto (-51), 3) := by decide +kernel
theorem dX12_product_5 : decode cX12_product 5 = .ok (.iload_n 1, 1) := by decide +kernel
theorem dX12_product_6 : decode cX12_product 6 = .ok (.ifCond .eq 53, 3) := by decide +kernel
theorem dX12_product_41 : decode cX12_product 41 = .ok (.aload_n 0, 1) := by decide +kernel
theorem dX12_product_42 : decode cX12_product 42 = .ok (.iconst 3, 1) := by decide +kernel
theorem dX12_product_43 : decode cX12_product 43 = .ok (.iload_n 2, 1) := by decide +kernel
theorem dX12_product_44 : decode cX12_product 44 = .ok (.iload_n 3, 1) := by decide +kernel
theorem dX12_product_45 : decode cX12_product 45 = .ok (.aload_n 0, 1) := by decide +kernel
theorem dX12_product_46 : decode cX12_product 46 = .ok (.getfield 285, 3) := by decide +kernel
theorem dX12_product_49 : decode cX12_product 49 = .ok (.aload_n 0, 1) := by decide +kernel
theorem dX12_product_50 : decode cX12_product 50 = .ok (.getfield 288, 3) := by decide +kernel
theorem dX12_product_53 : decode cX12_product 53 = .ok (.invokevirtual 310, 3) := by decide +kernel
set_option maxHeartbeats 4000000 in
set_option maxRecDepth 20000 in
theorem l_rd_prod (d : Nat) {b : Nat} {σ0 : MS} {lv : Nat} {post : Option Value → MS → Prop} (hce : ∀ (d : Nat) {b : Nat} {σ : MS} (hR : RG σ) (hrd : RDY σ) (hnn : NN σ) (h28 : σ.1 28 = 8 - (lv : Int)), Tm (d + 4 * lv + 8) m_X12_expression 0 b σ [(0, .ref b)] [] (fun ro σ2 => ∃ v : Int, ro = some (.int (iI v)) ∧ ((v = 0 ∨ v = 1)) ∧ (Fr [19, 20, 22, 23, 26, 27, 28, 32, 34, 39, 40] [3, 4, 5, 6, 7, 8, 35] [24, 38] σ σ2) ∧ (RG σ2) ∧ (PBF σ σ2) ∧ (Im v 1 (EXS σ σ2)) ∧ (PRS 2 v σ σ2) ∧ (σ2.1 28 = σ.1 28))) (hR0 : RG σ0) (hrd : RDY σ0) (hl28 : σ0.1 28 = 8 - (lv : Int)) (hx_59 : ∀ (a : Int) (σ : MS) , (Fr [19, 20, 22, 23, 26, 27, 28, 32, 34, 39, 40] [3, 4, 5, 6, 7, 8, 35] [24, 38] σ0 σ) → (RG σ) → (a = 0 ∨ a = 1) → ((a = 1 → TRm 9 0 σ0 [] σ [] ∧ GTm σ ∧ σ.1 28 = σ0.1 28)) → ((a = 0 → PBF σ0 σ ∧ ∀ q, GOF [9] σ0 q σ)) → (σ.1 28 = σ0.1 28) → Tm (d + 4 * lv + 10) m_X12_product 59 b σ [(1, .int (iI a)), (0, .ref b)] [] post) : ∀ (n : Nat) (a : Int) (σ : MS) , (Fr [19, 20, 22, 23, 26, 27, 28, 32, 34, 39, 40] [3, 4, 5, 6, 7, 8, 35] [24, 38] σ0 σ) → (RG σ) → (a = 1) → (TRm 9 0 σ0 [9] σ []) → (GTm σ) → (σ.1 28 = σ0.1 28) → (1300 - σ.1 19).toNat = n → Tm (d + 4 * lv + 10) m_X12_product 9 b σ [(1, .int (iI a)), (0, .ref b)] [] post := by
  intro n
  induction n using Nat.strongRecOn with
  | _ n ih =>
    intro a σ hF hR h0 htr hgt h28s hm
    have tok0 := htr.2.2.1.1.1
    have tok2 := htr.2.2.1.1.2.1
    refine tm_aload_n dX12_product_9 rfl 1 rfl ?_
    refine tm_bipush dX12_product_10 (by decide) ?_
    refine tm_callV (M := m_X12_product) (pc := 12) (ix := 258) (M' := m_X12_isSign) (As := [.int (iI 42)]) (rest := []) dX12_product_12 ok_X12_isSign im_X12_isSign se_X12_isSign ml12_258 np_X12_isSign rfl rfl (Nat.le_of_ble_eq_true rfl) (Nat.le_of_ble_eq_true rfl) rfl (c2_X12_isSign (d + 4 * lv + 8) (σ := σ) (c := 42) hR (by omega)) (fun r1 σ2 hp => ?_)
    obtain ⟨v3, rfl, rfl, f4, f5, f6⟩ := hp
    show Tm _ _ 15 b σ [(1, .int (iI a)), (0, .ref b)] [.int (iI v3)] _
    have i42 := f5
    have n42_ := f6
    refine tm_if_eq (tgt := 59) dX12_product_15 (by decide) ⟨by omega, by omega⟩ (fun h7 => ?_) (fun h7 => ?_)
    · exact tm_sub [0, 1] rfl (hx_59 (a) σ (Fr.rfl.trans (Fr.sub hF (by decide) (by decide) (by decide))) hR (by omega) (fun _ => ⟨htr.nxt (fun q => u9n (n42_ (by omega))), hgt, h28s⟩) (fun q => absurd q (by omega)) h28s)
    · refine tm_aload_n dX12_product_18 rfl 1 rfl ?_
      refine tm_getS (k := 39) (t := σ.1 39) dX12_product_19 (by decide) fl12_285 rfl (rfl) ?_
      have g8 := RG.s hR 39
      refine tm_istore_n (L' := [(2, .int (iI (σ.1 39))), (1, .int (iI a)), (0, .ref b)]) dX12_product_22 rfl (by decide) rfl ?_
      refine tm_aload_n dX12_product_23 rfl 2 rfl ?_
      refine tm_getS (k := 40) (t := σ.1 40) dX12_product_24 (by decide) fl12_288 rfl (rfl) ?_
      have g9 := RG.s hR 40
      refine tm_istore_n (L' := [(3, .int (iI (σ.1 40))), (2, .int (iI (σ.1 39))), (1, .int (iI a)), (0, .ref b)]) dX12_product_27 rfl (by decide) rfl ?_
      refine tm_aload_n dX12_product_28 rfl 3 rfl ?_
      refine tm_callV (M := m_X12_product) (pc := 29) (ix := 265) (M' := m_X12_advance) (As := []) (rest := []) dX12_product_29 ok_X12_advance im_X12_advance se_X12_advance ml12_265 np_X12_advance rfl rfl (Nat.le_of_ble_eq_true rfl) (Nat.le_of_ble_eq_true rfl) rfl (c_X12_advance (d + 4 * lv + 4) (σ := σ)  hR (by have z := htr.2.2.1.1.1; omega)) (fun r10 σ11 hp => ?_)
      obtain ⟨rfl, f13, f14, f15, f16, f17⟩ := hp
      show Tm _ _ 32 b σ11 [(3, .int (iI (σ.1 40))), (2, .int (iI (σ.1 39))), (1, .int (iI a)), (0, .ref b)] [] _
      have gt := hgt
      unfold GTm at gt
      have mm1 : σ.1 19 < σ11.1 19 := by have z := tok2 (by have z := (i42 (by omega)).1; omega); omega
      clear tok2
      have tr1 := htr.adv f14 f16 f17 (by have z := (i42 (by omega)).1; omega) (fun q => u9y (i42 (by omega)) f13 (MSE.fr f14 (by decide) (by decide) (by decide)))
      have e28a : σ11.1 28 = σ.1 28 := f14.1 28 (by decide)
      have m34a : σ11.1 34 = σ.1 34 := f14.1 34 (by decide)
      refine tm_aload_n dX12_product_32 rfl 3 rfl ?_
      refine tm_callV (M := m_X12_product) (pc := 33) (ix := 317) (M' := m_X12_signed) (As := []) (rest := []) dX12_product_33 ok_X12_signed im_X12_signed se_X12_signed ml12_317 np_X12_signed rfl rfl (Nat.le_of_ble_eq_true rfl) (Nat.le_of_ble_eq_true rfl) rfl (c_X12_signed (d) (σ := σ11)  hce f15 tr1.2.2.1 tr1.nn (by rw [e28a, h28s]; exact hl28)) (fun r18 σ19 hp => ?_)
      obtain ⟨v20, rfl, f21, f22, f23, f24, f25, f26, f27⟩ := hp
      show Tm _ _ 36 b σ19 [(3, .int (iI (σ.1 40))), (2, .int (iI (σ.1 39))), (1, .int (iI a)), (0, .ref b)] [.int (iI v20)] _
      have xp0 := f21
      have xp1 := f22
      have xp2 := f23
      have xp3 := f24
      have xp4 := f25
      have xp5 := f26
      have xp6 := f27
      refine tm_istore_n (L' := [(1, .int (iI v20)), (3, .int (iI (σ.1 40))), (2, .int (iI (σ.1 39))), (0, .ref b)]) dX12_product_36 rfl (by decide) rfl ?_
      refine tm_iload_n dX12_product_37 rfl 0 rfl ?_
      refine tm_if_eq (tgt := 56) dX12_product_38 (by decide) ⟨by omega, by omega⟩ (fun h28 => ?_) (fun h28 => ?_)
      · refine tm_goto (tgt := 5) dX12_product_56 (by decide) ?_
        refine tm_iload_n dX12_product_5 rfl 0 rfl ?_
        refine tm_if_eq (tgt := 59) dX12_product_6 (by decide) ⟨by omega, by omega⟩ (fun h29 => ?_) (fun h29 => ?_)
        · exact tm_sub [0, 3] rfl (hx_59 (v20) σ19 (((Fr.rfl.trans (Fr.sub hF (by decide) (by decide) (by decide))).trans (Fr.sub f14 (by decide) (by decide) (by decide))).trans (Fr.sub f22 (by decide) (by decide) (by decide))) f23 (by omega) (fun q => absurd q (by omega)) (fun _ => (tr1.fail xp3 (xp5.2 (by omega)))) (xp6.trans (e28a.trans h28s)))
        · exact absurd h29 (by omega)
      · have tr2 := tr1.sub xp3 (xp4 (by omega)) (xp5.1 (by omega))
        have gt2 := (xp4 (by omega)).2.2.1
        have mm2 := (xp4 (by omega)).2.1.1
        have m34b := xp3.2.2.2.2.2.1
        have e28b := (xp4 (by omega)).2.2.2.2
        have rdj := tr2.2.2.1.2
        have tkj := tr2.2.2.1.1.1
        have gt := gt2
        refine tm_aload_n dX12_product_41 rfl 3 rfl ?_
        refine tm_iconst dX12_product_42 ?_
        refine tm_iload_n dX12_product_43 rfl 2 rfl ?_
        refine tm_iload_n dX12_product_44 rfl 1 rfl ?_
        refine tm_aload_n dX12_product_45 rfl 3 rfl ?_
        refine tm_getS (k := 39) (t := σ19.1 39) dX12_product_46 (by decide) fl12_285 rfl (rfl) ?_
        have g30 := RG.s f23 39
        refine tm_aload_n dX12_product_49 rfl 3 rfl ?_
        refine tm_getS (k := 40) (t := σ19.1 40) dX12_product_50 (by decide) fl12_288 rfl (rfl) ?_
        have g31 := RG.s f23 40
        refine tm_callV (M := m_X12_product) (pc := 53) (ix := 310) (M' := m_X12_joins) (As := [.int (iI 3), .int (iI (σ.1 39)), .int (iI (σ.1 40)), .int (iI (σ19.1 39)), .int (iI (σ19.1 40))]) (rest := []) dX12_product_53 ok_X12_joins im_X12_joins se_X12_joins ml12_310 np_X12_joins rfl rfl (Nat.le_of_ble_eq_true rfl) (Nat.le_of_ble_eq_true rfl) rfl (c_X12_joins (d + 4 * lv + 6) (σ := σ19) (k := 3) (ak := σ.1 39) (a := σ.1 40) (bk := σ19.1 39) (c := σ19.1 40) f23 (by omega) (by decide) (by omega) (by have z := gt; unfold GTm at z; omega) (by omega) (by omega) (by omega)) (fun r32 σ33 hp => ?_)
        obtain ⟨rfl, f35, f36, f37, f38, f39, f40⟩ := hp
        show Tm _ _ 56 b σ33 [(1, .int (iI v20)), (3, .int (iI (σ.1 40))), (2, .int (iI (σ.1 39))), (0, .ref b)] [] _
        have tr3 := tr2.join (by decide) f35 f37 ⟨Eq.symm (rfl), Eq.symm (rfl)⟩ f40 f38 f39 (by decide) hrd
        have gtj : GTm σ33 := by unfold GTm; rw [f37.2.2.1, f37.2.2.2, f37.1]; exact ⟨Or.inr rfl, fun _ => by omega⟩
        have mm3 : σ33.1 19 = _ := f35.1 19 (by decide)
        have e28c : σ33.1 28 = σ0.1 28 := by rw [f35.1 28 (by decide), e28b, e28a]; exact h28s
        refine tm_goto (tgt := 5) dX12_product_56 (by decide) ?_
        refine tm_iload_n dX12_product_5 rfl 0 rfl ?_
        refine tm_if_eq (tgt := 59) dX12_product_6 (by decide) ⟨by omega, by omega⟩ (fun h41 => ?_) (fun h41 => ?_)
        · exact absurd h41 (by omega)
        · exact tm_sub [0, 3] rfl (ih _ (by omega) (v20) σ33 ((((Fr.rfl.trans (Fr.sub hF (by decide) (by decide) (by decide))).trans (Fr.sub f14 (by decide) (by decide) (by decide))).trans (Fr.sub f22 (by decide) (by decide) (by decide))).trans (Fr.sub f35 (by decide) (by decide) (by decide))) f36 (by omega) (tr3.le (by decide)) gtj e28c rfl)
theorem dX12_product_0 : decode cX12_product 0 = .ok (.aload_n 0, 1) := by decide +kernel
theorem dX12_product_1 : decode cX12_product 1 = .ok (.invokevirtual 317, 3) := by decide +kernel
theorem dX12_product_4 : decode cX12_product 4 = .ok (.istore_n 1, 1) := by decide +kernel
theorem dX12_product_59 : decode cX12_product 59 = .ok (.iload_n 1, 1) := by decide +kernel
theorem dX12_product_60 : decode cX12_product 60 = .ok (.ireturn, 1) := by decide +kernel
set_option maxHeartbeats 4000000 in
set_option maxRecDepth 20000 in
theorem c_X12_product (d : Nat) {b : Nat} {σ : MS} {lv : Nat} (hce : ∀ (d : Nat) {b : Nat} {σ : MS} (hR : RG σ) (hrd : RDY σ) (hnn : NN σ) (h28 : σ.1 28 = 8 - (lv : Int)), Tm (d + 4 * lv + 8) m_X12_expression 0 b σ [(0, .ref b)] [] (fun ro σ2 => ∃ v : Int, ro = some (.int (iI v)) ∧ ((v = 0 ∨ v = 1)) ∧ (Fr [19, 20, 22, 23, 26, 27, 28, 32, 34, 39, 40] [3, 4, 5, 6, 7, 8, 35] [24, 38] σ σ2) ∧ (RG σ2) ∧ (PBF σ σ2) ∧ (Im v 1 (EXS σ σ2)) ∧ (PRS 2 v σ σ2) ∧ (σ2.1 28 = σ.1 28))) (hR : RG σ) (hrd : RDY σ) (hnn : NN σ) (h28 : σ.1 28 = 8 - (lv : Int)) : Tm (d + 4 * lv + 10) m_X12_product 0 b σ [(0, .ref b)] [] (fun ro σ2 => ∃ v : Int, ro = some (.int (iI v)) ∧ ((v = 0 ∨ v = 1)) ∧ (Fr [19, 20, 22, 23, 26, 27, 28, 32, 34, 39, 40] [3, 4, 5, 6, 7, 8, 35] [24, 38] σ σ2) ∧ (RG σ2) ∧ (PBF σ σ2) ∧ (Im v 1 (EXS σ σ2)) ∧ (PRS 4 v σ σ2) ∧ (σ2.1 28 = σ.1 28)) := by
  have tr0 : TRm 4 0 σ [4] σ [] := TRm.start hrd hnn
  have tr1 := tr0.nxt (fun q => u4)
  refine tm_aload_n dX12_product_0 rfl 0 rfl ?_
  refine tm_callV (M := m_X12_product) (pc := 1) (ix := 317) (M' := m_X12_signed) (As := []) (rest := []) dX12_product_1 ok_X12_signed im_X12_signed se_X12_signed ml12_317 np_X12_signed rfl rfl (Nat.le_of_ble_eq_true rfl) (Nat.le_of_ble_eq_true rfl) rfl (c_X12_signed (d) (σ := σ)  hce hR hrd hnn h28) (fun r1 σ2 hp => ?_)
  obtain ⟨v3, rfl, f4, f5, f6, f7, f8, f9, f10⟩ := hp
  show Tm _ _ 4 b σ2 [(0, .ref b)] [.int (iI v3)] _
  have xp0 := f4
  have xp1 := f5
  have xp2 := f6
  have xp3 := f7
  have xp4 := f8
  have xp5 := f9
  have xp6 := f10
  refine tm_istore_n (L' := [(1, .int (iI v3)), (0, .ref b)]) dX12_product_4 rfl (by decide) rfl ?_
  refine tm_iload_n dX12_product_5 rfl 0 rfl ?_
  refine tm_if_eq (tgt := 59) dX12_product_6 (by decide) ⟨by omega, by omega⟩ (fun h11 => ?_) (fun h11 => ?_)
  · refine tm_iload_n dX12_product_59 rfl 0 rfl ?_
    exact tm_zret (v := v3) rfl (by omega) dX12_product_60 (⟨_, rfl, by omega, (Fr.rfl.trans (Fr.sub f5 (by decide) (by decide) (by decide))), f6, (tr1.fail xp3 (xp5.2 (by omega))).1, fun q => absurd q (by omega), by rw [show v3 = 0 by omega]; exact PRS.no (tr1.fail xp3 (xp5.2 (by omega))).2, xp6⟩)
  · have tr2 := tr1.sub xp3 (xp4 (by omega)) (xp5.1 (by omega))
    have e28z := (xp4 (by omega)).2.2.2.2
    refine tm_sub [0, 1] rfl (l_rd_prod (d) (σ0 := σ2) hce f6 tr2.2.2.1 ((xp4 (by omega)).2.2.2.2.trans h28) (fun a20 σ21 F14 R15 f16 f17 f18 f19 => ?_) _ (v3) σ2 Fr.rfl f6 (by omega) (TRm.start (xp4 (by omega)).1 xp3.2.2.1) (xp4 (by omega)).2.2.1 rfl rfl)
    show Tm _ _ 59 b σ21 [(1, .int (iI a20)), (0, .ref b)] [] _
    refine tm_iload_n dX12_product_59 rfl 0 rfl ?_
    exact tm_zret (v := a20) rfl (by omega) dX12_product_60 (⟨_, rfl, by omega, ((Fr.rfl.trans (Fr.sub f5 (by decide) (by decide) (by decide))).trans (Fr.sub F14 (by decide) (by decide) (by decide))), R15, (by rcases f16 with z | z; exact tr2.1.trans (f18 z).1; exact tr2.1.trans (f17 z).1.1), fun z => (tr2.cat (f17 z).1).exs (by decide) (f17 z).2.1 ((f17 z).2.2.trans e28z), ⟨fun z q => (tr2.cat (f17 z).1).2.2.2.2 q, fun z q => (tr2.2.2.2.2 q).fail (((f18 z).2 q).more [])⟩, f19.trans xp6⟩)
theorem ml12_314 : Cond.methodLink RX12 314 yX12_product ∈ pWW := pw8 (List.mem_of_getElem? (i := 225) rfl) rfl
theorem dX12_sum_9 : decode cX12_sum 9 = .ok (.aload_n 0, 1) := by decide +kernel
theorem dX12_sum_10 : decode cX12_sum 10 = .ok (.bipush 43, 2) := by decide +kernel
theorem dX12_sum_12 : decode cX12_sum 12 = .ok (.invokevirtual 258, 3) := by decide +kernel
theorem dX12_sum_15 : decode cX12_sum 15 = .ok (.ifCond .ne 12, 3) := by decide +kernel
theorem dX12_sum_27 : decode cX12_sum 27 = .ok (.aload_n 0, 1) := by decide +kernel
theorem dX12_sum_28 : decode cX12_sum 28 = .ok (.bipush 43, 2) := by decide +kernel
theorem dX12_sum_30 : decode cX12_sum 30 = .ok (.invokevirtual 258, 3) := by decide +kernel
theorem dX12_sum_33 : decode cX12_sum 33 = .ok (.ifCond .eq 7, 3) := by decide +kernel
theorem dX12_sum_40 : decode cX12_sum 40 = .ok (.iconst 2, 1) := by decide +kernel
theorem dX12_sum_41 : decode cX12_sum 41 = .ok (.istore_n 2, 1) := by decide +kernel
theorem dX12_sum_42 : decode cX12_sum 42 = .ok (.aload_n 0, 1) := by decide +kernel
theorem dX12_sum_43 : decode cX12_sum 43 = .ok (.getfield 285, 3) := by decide +kernel
theorem dX12_sum_46 : decode cX12_sum 46 = .ok (.istore_n 3, 1) := by decide +kernel
theorem dX12_sum_47 : decode cX12_sum 47 = .ok (.aload_n 0, 1) := by decide +kernel
theorem dX12_sum_48 : decode cX12_sum 48 = .ok (.getfield 288, 3) := by decide +kernel
theorem dX12_sum_51 : decode cX12_sum 51 = .ok (.istore 4, 2) := by decide +kernel
theorem dX12_sum_53 : decode cX12_sum 53 = .ok (.aload_n 0, 1) := by decide +kernel
theorem dX12_sum_54 : decode cX12_sum 54 = .ok (.invokevirtual 265, 3) := by decide +kernel
theorem dX12_sum_57 : decode cX12_sum 57 = .ok (.aload_n 0, 1) := by decide +kernel
theorem dX12_sum_58 : decode cX12_sum 58 = .ok (.invokevirtual 314, 3) := by decide +kernel
theorem dX12_sum_61 : decode cX12_sum 61 = .ok (.istore_n 1, 1) := by decide +kernel
theorem dX12_sum_62 : decode cX12_sum 62 = .ok (.iload_n 1, 1) := by decide +kernel
theorem dX12_sum_63 : decode cX12_sum 63 = .ok (.ifCond .eq 19, 3) := by decide +kernel
theorem dX12_sum_82 : decode cX12_sum 82 = .ok (.goto (-77), 3) := by decide +kernel
theorem dX12_sum_5 : decode cX12_sum 5 = .ok (.iload_n 1, 1) := by decide +kernel
theorem dX12_sum_6 : decode cX12_sum 6 = .ok (.ifCond .eq 79, 3) := by decide +kernel
theorem dX12_sum_66 : decode cX12_sum 66 = .ok (.aload_n 0, 1) := by decide +kernel
theorem dX12_sum_67 : decode cX12_sum 67 = .ok (.iload_n 2, 1) := by decide +kernel
theorem dX12_sum_68 : decode cX12_sum 68 = .ok (.iload_n 3, 1) := by decide +kernel
theorem dX12_sum_69 : decode cX12_sum 69 = .ok (.iload 4, 2) := by decide +kernel
theorem dX12_sum_71 : decode cX12_sum 71 = .ok (.aload_n 0, 1) := by decide +kernel
theorem dX12_sum_72 : decode cX12_sum 72 = .ok (.getfield 285, 3) := by decide +kernel
theorem dX12_sum_75 : decode cX12_sum 75 = .ok (.aload_n 0, 1) := by decide +kernel
theorem dX12_sum_76 : decode cX12_sum 76 = .ok (.getfield 288, 3) := by decide +kernel
theorem dX12_sum_79 : decode cX12_sum 79 = .ok (.invokevirtual 310, 3) := by decide +kernel
theorem dX12_sum_36 : decode cX12_sum 36 = .ok (.iconst 1, 1) := by decide +kernel
theorem dX12_sum_37 : decode cX12_sum 37 = .ok (.goto 4, 3) := by decide +kernel
theorem dX12_sum_18 : decode cX12_sum 18 = .ok (.aload_n 0, 1) := by decide +kernel
theorem dX12_sum_19 : decode cX12_sum 19 = .ok (.bipush 45, 2) := by decide +kernel
theorem dX12_sum_21 : decode cX12_sum 21 = .ok (.invokevirtual 258, 3) := by decide +kernel
theorem dX12_sum_24 : decode cX12_sum 24 = .ok (.ifCond .eq 61, 3) := by decide +kernel
set_option maxHeartbeats 4000000 in
set_option maxRecDepth 20000 in
theorem l_rd_sum (d : Nat) {b : Nat} {σ0 : MS} {lv : Nat} {post : Option Value → MS → Prop} (hce : ∀ (d : Nat) {b : Nat} {σ : MS} (hR : RG σ) (hrd : RDY σ) (hnn : NN σ) (h28 : σ.1 28 = 8 - (lv : Int)), Tm (d + 4 * lv + 8) m_X12_expression 0 b σ [(0, .ref b)] [] (fun ro σ2 => ∃ v : Int, ro = some (.int (iI v)) ∧ ((v = 0 ∨ v = 1)) ∧ (Fr [19, 20, 22, 23, 26, 27, 28, 32, 34, 39, 40] [3, 4, 5, 6, 7, 8, 35] [24, 38] σ σ2) ∧ (RG σ2) ∧ (PBF σ σ2) ∧ (Im v 1 (EXS σ σ2)) ∧ (PRS 2 v σ σ2) ∧ (σ2.1 28 = σ.1 28))) (hR0 : RG σ0) (hrd : RDY σ0) (hl28 : σ0.1 28 = 8 - (lv : Int)) (hx_85 : ∀ (a : Int) (σ : MS) , (Fr [19, 20, 22, 23, 26, 27, 28, 32, 34, 39, 40] [3, 4, 5, 6, 7, 8, 35] [24, 38] σ0 σ) → (RG σ) → (a = 0 ∨ a = 1) → ((a = 1 → TRm 8 0 σ0 [] σ [] ∧ GTm σ ∧ σ.1 28 = σ0.1 28)) → ((a = 0 → PBF σ0 σ ∧ ∀ q, GOF [8] σ0 q σ)) → (σ.1 28 = σ0.1 28) → Tm (d + 4 * lv + 11) m_X12_sum 85 b σ [(1, .int (iI a)), (0, .ref b)] [] post) : ∀ (n : Nat) (a : Int) (σ : MS) , (Fr [19, 20, 22, 23, 26, 27, 28, 32, 34, 39, 40] [3, 4, 5, 6, 7, 8, 35] [24, 38] σ0 σ) → (RG σ) → (a = 1) → (TRm 8 0 σ0 [8] σ []) → (GTm σ) → (σ.1 28 = σ0.1 28) → (1300 - σ.1 19).toNat = n → Tm (d + 4 * lv + 11) m_X12_sum 9 b σ [(1, .int (iI a)), (0, .ref b)] [] post := by
  intro n
  induction n using Nat.strongRecOn with
  | _ n ih =>
    intro a σ hF hR h0 htr hgt h28s hm
    have tok0 := htr.2.2.1.1.1
    have tok2 := htr.2.2.1.1.2.1
    refine tm_aload_n dX12_sum_9 rfl 1 rfl ?_
    refine tm_bipush dX12_sum_10 (by decide) ?_
    refine tm_callV (M := m_X12_sum) (pc := 12) (ix := 258) (M' := m_X12_isSign) (As := [.int (iI 43)]) (rest := []) dX12_sum_12 ok_X12_isSign im_X12_isSign se_X12_isSign ml12_258 np_X12_isSign rfl rfl (Nat.le_of_ble_eq_true rfl) (Nat.le_of_ble_eq_true rfl) rfl (c2_X12_isSign (d + 4 * lv + 9) (σ := σ) (c := 43) hR (by omega)) (fun r1 σ2 hp => ?_)
    obtain ⟨v3, rfl, rfl, f4, f5, f6⟩ := hp
    show Tm _ _ 15 b σ [(1, .int (iI a)), (0, .ref b)] [.int (iI v3)] _
    have i43 := f5
    have n43_ := f6
    refine tm_if_ne (tgt := 27) dX12_sum_15 (by decide) ⟨by omega, by omega⟩ (fun h7 => ?_) (fun h7 => ?_)
    · refine tm_aload_n dX12_sum_27 rfl 1 rfl ?_
      refine tm_bipush dX12_sum_28 (by decide) ?_
      refine tm_callV (M := m_X12_sum) (pc := 30) (ix := 258) (M' := m_X12_isSign) (As := [.int (iI 43)]) (rest := []) dX12_sum_30 ok_X12_isSign im_X12_isSign se_X12_isSign ml12_258 np_X12_isSign rfl rfl (Nat.le_of_ble_eq_true rfl) (Nat.le_of_ble_eq_true rfl) rfl (c2_X12_isSign (d + 4 * lv + 9) (σ := σ) (c := 43) hR (by omega)) (fun r8 σ9 hp => ?_)
      obtain ⟨v10, rfl, rfl, f11, f12, f13⟩ := hp
      show Tm _ _ 33 b σ [(1, .int (iI a)), (0, .ref b)] [.int (iI v10)] _
      have i43b := f12
      have n43b_ := f13
      refine tm_if_eq (tgt := 40) dX12_sum_33 (by decide) ⟨by omega, by omega⟩ (fun h14 => ?_) (fun h14 => ?_)
      · refine tm_iconst dX12_sum_40 ?_
        refine tm_istore_n (L' := [(2, .int (iI 2)), (1, .int (iI a)), (0, .ref b)]) dX12_sum_41 rfl (by decide) rfl ?_
        refine tm_aload_n dX12_sum_42 rfl 2 rfl ?_
        refine tm_getS (k := 39) (t := σ.1 39) dX12_sum_43 (by decide) fl12_285 rfl (rfl) ?_
        have g15 := RG.s hR 39
        refine tm_istore_n (L' := [(3, .int (iI (σ.1 39))), (2, .int (iI 2)), (1, .int (iI a)), (0, .ref b)]) dX12_sum_46 rfl (by decide) rfl ?_
        refine tm_aload_n dX12_sum_47 rfl 3 rfl ?_
        refine tm_getS (k := 40) (t := σ.1 40) dX12_sum_48 (by decide) fl12_288 rfl (rfl) ?_
        have g16 := RG.s hR 40
        refine tm_istore (L' := [(4, .int (iI (σ.1 40))), (3, .int (iI (σ.1 39))), (2, .int (iI 2)), (1, .int (iI a)), (0, .ref b)]) dX12_sum_51 (by decide) rfl ?_
        refine tm_aload_n dX12_sum_53 rfl 4 rfl ?_
        refine tm_callV (M := m_X12_sum) (pc := 54) (ix := 265) (M' := m_X12_advance) (As := []) (rest := []) dX12_sum_54 ok_X12_advance im_X12_advance se_X12_advance ml12_265 np_X12_advance rfl rfl (Nat.le_of_ble_eq_true rfl) (Nat.le_of_ble_eq_true rfl) rfl (c_X12_advance (d + 4 * lv + 5) (σ := σ)  hR (by have z := htr.2.2.1.1.1; omega)) (fun r17 σ18 hp => ?_)
        obtain ⟨rfl, f20, f21, f22, f23, f24⟩ := hp
        show Tm _ _ 57 b σ18 [(4, .int (iI (σ.1 40))), (3, .int (iI (σ.1 39))), (2, .int (iI 2)), (1, .int (iI a)), (0, .ref b)] [] _
        have gt := hgt
        unfold GTm at gt
        have mm1 : σ.1 19 < σ18.1 19 := by have z := tok2 (by first | (have z := (i43 (by omega)).1; omega) | (have z := (i45 (by omega)).1; omega)); omega
        clear tok2
        have tr1 := htr.adv f21 f23 f24 (by first | (have z := (i43 (by omega)).1; omega) | (have z := (i45 (by omega)).1; omega)) (fun q => u8m (n43b_ (by omega)) (by first | exact i45 (by omega) | exact absurd (i43 (by omega)) (n43b_ (by omega))) f20 (MSE.fr f21 (by decide) (by decide) (by decide)))
        have e28a : σ18.1 28 = σ.1 28 := f21.1 28 (by decide)
        have m34a : σ18.1 34 = σ.1 34 := f21.1 34 (by decide)
        refine tm_aload_n dX12_sum_57 rfl 4 rfl ?_
        refine tm_callV (M := m_X12_sum) (pc := 58) (ix := 314) (M' := m_X12_product) (As := []) (rest := []) dX12_sum_58 ok_X12_product im_X12_product se_X12_product ml12_314 np_X12_product rfl rfl (Nat.le_of_ble_eq_true rfl) (Nat.le_of_ble_eq_true rfl) rfl (c_X12_product (d) (σ := σ18)  hce f22 tr1.2.2.1 tr1.nn (by rw [e28a, h28s]; exact hl28)) (fun r25 σ26 hp => ?_)
        obtain ⟨v27, rfl, f28, f29, f30, f31, f32, f33, f34⟩ := hp
        show Tm _ _ 61 b σ26 [(4, .int (iI (σ.1 40))), (3, .int (iI (σ.1 39))), (2, .int (iI 2)), (1, .int (iI a)), (0, .ref b)] [.int (iI v27)] _
        have xp0 := f28
        have xp1 := f29
        have xp2 := f30
        have xp3 := f31
        have xp4 := f32
        have xp5 := f33
        have xp6 := f34
        refine tm_istore_n (L' := [(1, .int (iI v27)), (4, .int (iI (σ.1 40))), (3, .int (iI (σ.1 39))), (2, .int (iI 2)), (0, .ref b)]) dX12_sum_61 rfl (by decide) rfl ?_
        refine tm_iload_n dX12_sum_62 rfl 0 rfl ?_
        refine tm_if_eq (tgt := 82) dX12_sum_63 (by decide) ⟨by omega, by omega⟩ (fun h35 => ?_) (fun h35 => ?_)
        · refine tm_goto (tgt := 5) dX12_sum_82 (by decide) ?_
          refine tm_iload_n dX12_sum_5 rfl 0 rfl ?_
          refine tm_if_eq (tgt := 85) dX12_sum_6 (by decide) ⟨by omega, by omega⟩ (fun h36 => ?_) (fun h36 => ?_)
          · exact tm_sub [0, 4] rfl (hx_85 (v27) σ26 (((Fr.rfl.trans (Fr.sub hF (by decide) (by decide) (by decide))).trans (Fr.sub f21 (by decide) (by decide) (by decide))).trans (Fr.sub f29 (by decide) (by decide) (by decide))) f30 (by omega) (fun q => absurd q (by omega)) (fun _ => (tr1.fail xp3 (xp5.2 (by omega)))) (xp6.trans (e28a.trans h28s)))
          · exact absurd h36 (by omega)
        · have tr2 := tr1.sub xp3 (xp4 (by omega)) (xp5.1 (by omega))
          have gt2 := (xp4 (by omega)).2.2.1
          have mm2 := (xp4 (by omega)).2.1.1
          have m34b := xp3.2.2.2.2.2.1
          have e28b := (xp4 (by omega)).2.2.2.2
          have rdj := tr2.2.2.1.2
          have tkj := tr2.2.2.1.1.1
          have gt := gt2
          refine tm_aload_n dX12_sum_66 rfl 4 rfl ?_
          refine tm_iload_n dX12_sum_67 rfl 3 rfl ?_
          refine tm_iload_n dX12_sum_68 rfl 2 rfl ?_
          refine tm_iload dX12_sum_69 1 rfl ?_
          refine tm_aload_n dX12_sum_71 rfl 4 rfl ?_
          refine tm_getS (k := 39) (t := σ26.1 39) dX12_sum_72 (by decide) fl12_285 rfl (rfl) ?_
          have g37 := RG.s f30 39
          refine tm_aload_n dX12_sum_75 rfl 4 rfl ?_
          refine tm_getS (k := 40) (t := σ26.1 40) dX12_sum_76 (by decide) fl12_288 rfl (rfl) ?_
          have g38 := RG.s f30 40
          refine tm_callV (M := m_X12_sum) (pc := 79) (ix := 310) (M' := m_X12_joins) (As := [.int (iI 2), .int (iI (σ.1 39)), .int (iI (σ.1 40)), .int (iI (σ26.1 39)), .int (iI (σ26.1 40))]) (rest := []) dX12_sum_79 ok_X12_joins im_X12_joins se_X12_joins ml12_310 np_X12_joins rfl rfl (Nat.le_of_ble_eq_true rfl) (Nat.le_of_ble_eq_true rfl) rfl (c_X12_joins (d + 4 * lv + 7) (σ := σ26) (k := 2) (ak := σ.1 39) (a := σ.1 40) (bk := σ26.1 39) (c := σ26.1 40) f30 (by omega) (by decide) (by omega) (by have z := gt; unfold GTm at z; omega) (by omega) (by omega) (by omega)) (fun r39 σ40 hp => ?_)
          obtain ⟨rfl, f42, f43, f44, f45, f46, f47⟩ := hp
          show Tm _ _ 82 b σ40 [(1, .int (iI v27)), (4, .int (iI (σ.1 40))), (3, .int (iI (σ.1 39))), (2, .int (iI 2)), (0, .ref b)] [] _
          have tr3 := tr2.join (by decide) f42 f44 ⟨Eq.symm (rfl), Eq.symm (rfl)⟩ f47 f45 f46 (by decide) hrd
          have gtj : GTm σ40 := by unfold GTm; rw [f44.2.2.1, f44.2.2.2, f44.1]; exact ⟨Or.inr rfl, fun _ => by omega⟩
          have mm3 : σ40.1 19 = _ := f42.1 19 (by decide)
          have e28c : σ40.1 28 = σ0.1 28 := by rw [f42.1 28 (by decide), e28b, e28a]; exact h28s
          refine tm_goto (tgt := 5) dX12_sum_82 (by decide) ?_
          refine tm_iload_n dX12_sum_5 rfl 0 rfl ?_
          refine tm_if_eq (tgt := 85) dX12_sum_6 (by decide) ⟨by omega, by omega⟩ (fun h48 => ?_) (fun h48 => ?_)
          · exact absurd h48 (by omega)
          · exact tm_sub [0, 4] rfl (ih _ (by omega) (v27) σ40 ((((Fr.rfl.trans (Fr.sub hF (by decide) (by decide) (by decide))).trans (Fr.sub f21 (by decide) (by decide) (by decide))).trans (Fr.sub f29 (by decide) (by decide) (by decide))).trans (Fr.sub f42 (by decide) (by decide) (by decide))) f43 (by omega) (tr3.le (by decide)) gtj e28c rfl)
      · refine tm_iconst dX12_sum_36 ?_
        refine tm_goto (tgt := 41) dX12_sum_37 (by decide) ?_
        refine tm_istore_n (L' := [(2, .int (iI 1)), (1, .int (iI a)), (0, .ref b)]) dX12_sum_41 rfl (by decide) rfl ?_
        refine tm_aload_n dX12_sum_42 rfl 2 rfl ?_
        refine tm_getS (k := 39) (t := σ.1 39) dX12_sum_43 (by decide) fl12_285 rfl (rfl) ?_
        have g49 := RG.s hR 39
        refine tm_istore_n (L' := [(3, .int (iI (σ.1 39))), (2, .int (iI 1)), (1, .int (iI a)), (0, .ref b)]) dX12_sum_46 rfl (by decide) rfl ?_
        refine tm_aload_n dX12_sum_47 rfl 3 rfl ?_
        refine tm_getS (k := 40) (t := σ.1 40) dX12_sum_48 (by decide) fl12_288 rfl (rfl) ?_
        have g50 := RG.s hR 40
        refine tm_istore (L' := [(4, .int (iI (σ.1 40))), (3, .int (iI (σ.1 39))), (2, .int (iI 1)), (1, .int (iI a)), (0, .ref b)]) dX12_sum_51 (by decide) rfl ?_
        refine tm_aload_n dX12_sum_53 rfl 4 rfl ?_
        refine tm_callV (M := m_X12_sum) (pc := 54) (ix := 265) (M' := m_X12_advance) (As := []) (rest := []) dX12_sum_54 ok_X12_advance im_X12_advance se_X12_advance ml12_265 np_X12_advance rfl rfl (Nat.le_of_ble_eq_true rfl) (Nat.le_of_ble_eq_true rfl) rfl (c_X12_advance (d + 4 * lv + 5) (σ := σ)  hR (by have z := htr.2.2.1.1.1; omega)) (fun r51 σ52 hp => ?_)
        obtain ⟨rfl, f54, f55, f56, f57, f58⟩ := hp
        show Tm _ _ 57 b σ52 [(4, .int (iI (σ.1 40))), (3, .int (iI (σ.1 39))), (2, .int (iI 1)), (1, .int (iI a)), (0, .ref b)] [] _
        have gt := hgt
        unfold GTm at gt
        have mm1 : σ.1 19 < σ52.1 19 := by have z := tok2 (by first | (have z := (i43 (by omega)).1; omega) | (have z := (i45 (by omega)).1; omega)); omega
        clear tok2
        have tr4 := htr.adv f55 f57 f58 (by first | (have z := (i43 (by omega)).1; omega) | (have z := (i45 (by omega)).1; omega)) (fun q => u8p (i43b (by omega)) f54 (MSE.fr f55 (by decide) (by decide) (by decide)))
        have e28a : σ52.1 28 = σ.1 28 := f55.1 28 (by decide)
        have m34a : σ52.1 34 = σ.1 34 := f55.1 34 (by decide)
        refine tm_aload_n dX12_sum_57 rfl 4 rfl ?_
        refine tm_callV (M := m_X12_sum) (pc := 58) (ix := 314) (M' := m_X12_product) (As := []) (rest := []) dX12_sum_58 ok_X12_product im_X12_product se_X12_product ml12_314 np_X12_product rfl rfl (Nat.le_of_ble_eq_true rfl) (Nat.le_of_ble_eq_true rfl) rfl (c_X12_product (d) (σ := σ52)  hce f56 tr4.2.2.1 tr4.nn (by rw [e28a, h28s]; exact hl28)) (fun r59 σ60 hp => ?_)
        obtain ⟨v61, rfl, f62, f63, f64, f65, f66, f67, f68⟩ := hp
        show Tm _ _ 61 b σ60 [(4, .int (iI (σ.1 40))), (3, .int (iI (σ.1 39))), (2, .int (iI 1)), (1, .int (iI a)), (0, .ref b)] [.int (iI v61)] _
        have xp0 := f62
        have xp1 := f63
        have xp2 := f64
        have xp3 := f65
        have xp4 := f66
        have xp5 := f67
        have xp6 := f68
        refine tm_istore_n (L' := [(1, .int (iI v61)), (4, .int (iI (σ.1 40))), (3, .int (iI (σ.1 39))), (2, .int (iI 1)), (0, .ref b)]) dX12_sum_61 rfl (by decide) rfl ?_
        refine tm_iload_n dX12_sum_62 rfl 0 rfl ?_
        refine tm_if_eq (tgt := 82) dX12_sum_63 (by decide) ⟨by omega, by omega⟩ (fun h69 => ?_) (fun h69 => ?_)
        · refine tm_goto (tgt := 5) dX12_sum_82 (by decide) ?_
          refine tm_iload_n dX12_sum_5 rfl 0 rfl ?_
          refine tm_if_eq (tgt := 85) dX12_sum_6 (by decide) ⟨by omega, by omega⟩ (fun h70 => ?_) (fun h70 => ?_)
          · exact tm_sub [0, 4] rfl (hx_85 (v61) σ60 (((Fr.rfl.trans (Fr.sub hF (by decide) (by decide) (by decide))).trans (Fr.sub f55 (by decide) (by decide) (by decide))).trans (Fr.sub f63 (by decide) (by decide) (by decide))) f64 (by omega) (fun q => absurd q (by omega)) (fun _ => (tr4.fail xp3 (xp5.2 (by omega)))) (xp6.trans (e28a.trans h28s)))
          · exact absurd h70 (by omega)
        · have tr5 := tr4.sub xp3 (xp4 (by omega)) (xp5.1 (by omega))
          have gt2 := (xp4 (by omega)).2.2.1
          have mm2 := (xp4 (by omega)).2.1.1
          have m34b := xp3.2.2.2.2.2.1
          have e28b := (xp4 (by omega)).2.2.2.2
          have rdj := tr5.2.2.1.2
          have tkj := tr5.2.2.1.1.1
          have gt := gt2
          refine tm_aload_n dX12_sum_66 rfl 4 rfl ?_
          refine tm_iload_n dX12_sum_67 rfl 3 rfl ?_
          refine tm_iload_n dX12_sum_68 rfl 2 rfl ?_
          refine tm_iload dX12_sum_69 1 rfl ?_
          refine tm_aload_n dX12_sum_71 rfl 4 rfl ?_
          refine tm_getS (k := 39) (t := σ60.1 39) dX12_sum_72 (by decide) fl12_285 rfl (rfl) ?_
          have g71 := RG.s f64 39
          refine tm_aload_n dX12_sum_75 rfl 4 rfl ?_
          refine tm_getS (k := 40) (t := σ60.1 40) dX12_sum_76 (by decide) fl12_288 rfl (rfl) ?_
          have g72 := RG.s f64 40
          refine tm_callV (M := m_X12_sum) (pc := 79) (ix := 310) (M' := m_X12_joins) (As := [.int (iI 1), .int (iI (σ.1 39)), .int (iI (σ.1 40)), .int (iI (σ60.1 39)), .int (iI (σ60.1 40))]) (rest := []) dX12_sum_79 ok_X12_joins im_X12_joins se_X12_joins ml12_310 np_X12_joins rfl rfl (Nat.le_of_ble_eq_true rfl) (Nat.le_of_ble_eq_true rfl) rfl (c_X12_joins (d + 4 * lv + 7) (σ := σ60) (k := 1) (ak := σ.1 39) (a := σ.1 40) (bk := σ60.1 39) (c := σ60.1 40) f64 (by omega) (by decide) (by omega) (by have z := gt; unfold GTm at z; omega) (by omega) (by omega) (by omega)) (fun r73 σ74 hp => ?_)
          obtain ⟨rfl, f76, f77, f78, f79, f80, f81⟩ := hp
          show Tm _ _ 82 b σ74 [(1, .int (iI v61)), (4, .int (iI (σ.1 40))), (3, .int (iI (σ.1 39))), (2, .int (iI 1)), (0, .ref b)] [] _
          have tr6 := tr5.join (by decide) f76 f78 ⟨Eq.symm (rfl), Eq.symm (rfl)⟩ f81 f79 f80 (by decide) hrd
          have gtj : GTm σ74 := by unfold GTm; rw [f78.2.2.1, f78.2.2.2, f78.1]; exact ⟨Or.inr rfl, fun _ => by omega⟩
          have mm3 : σ74.1 19 = _ := f76.1 19 (by decide)
          have e28c : σ74.1 28 = σ0.1 28 := by rw [f76.1 28 (by decide), e28b, e28a]; exact h28s
          refine tm_goto (tgt := 5) dX12_sum_82 (by decide) ?_
          refine tm_iload_n dX12_sum_5 rfl 0 rfl ?_
          refine tm_if_eq (tgt := 85) dX12_sum_6 (by decide) ⟨by omega, by omega⟩ (fun h82 => ?_) (fun h82 => ?_)
          · exact absurd h82 (by omega)
          · exact tm_sub [0, 4] rfl (ih _ (by omega) (v61) σ74 ((((Fr.rfl.trans (Fr.sub hF (by decide) (by decide) (by decide))).trans (Fr.sub f55 (by decide) (by decide) (by decide))).trans (Fr.sub f63 (by decide) (by decide) (by decide))).trans (Fr.sub f76 (by decide) (by decide) (by decide))) f77 (by omega) (tr6.le (by decide)) gtj e28c rfl)
    · refine tm_aload_n dX12_sum_18 rfl 1 rfl ?_
      refine tm_bipush dX12_sum_19 (by decide) ?_
      refine tm_callV (M := m_X12_sum) (pc := 21) (ix := 258) (M' := m_X12_isSign) (As := [.int (iI 45)]) (rest := []) dX12_sum_21 ok_X12_isSign im_X12_isSign se_X12_isSign ml12_258 np_X12_isSign rfl rfl (Nat.le_of_ble_eq_true rfl) (Nat.le_of_ble_eq_true rfl) rfl (c2_X12_isSign (d + 4 * lv + 9) (σ := σ) (c := 45) hR (by omega)) (fun r83 σ84 hp => ?_)
      obtain ⟨v85, rfl, rfl, f86, f87, f88⟩ := hp
      show Tm _ _ 24 b σ [(1, .int (iI a)), (0, .ref b)] [.int (iI v85)] _
      have i45 := f87
      have n45_ := f88
      refine tm_if_eq (tgt := 85) dX12_sum_24 (by decide) ⟨by omega, by omega⟩ (fun h89 => ?_) (fun h89 => ?_)
      · exact tm_sub [0, 1] rfl (hx_85 (a) σ (Fr.rfl.trans (Fr.sub hF (by decide) (by decide) (by decide))) hR (by omega) (fun _ => ⟨htr.nxt (fun q => u8n (n43_ (by omega)) (n45_ (by omega))), hgt, h28s⟩) (fun q => absurd q (by omega)) h28s)
      · refine tm_aload_n dX12_sum_27 rfl 1 rfl ?_
        refine tm_bipush dX12_sum_28 (by decide) ?_
        refine tm_callV (M := m_X12_sum) (pc := 30) (ix := 258) (M' := m_X12_isSign) (As := [.int (iI 43)]) (rest := []) dX12_sum_30 ok_X12_isSign im_X12_isSign se_X12_isSign ml12_258 np_X12_isSign rfl rfl (Nat.le_of_ble_eq_true rfl) (Nat.le_of_ble_eq_true rfl) rfl (c2_X12_isSign (d + 4 * lv + 9) (σ := σ) (c := 43) hR (by omega)) (fun r90 σ91 hp => ?_)
        obtain ⟨v92, rfl, rfl, f93, f94, f95⟩ := hp
        show Tm _ _ 33 b σ [(1, .int (iI a)), (0, .ref b)] [.int (iI v92)] _
        have i43b := f94
        have n43b_ := f95
        refine tm_if_eq (tgt := 40) dX12_sum_33 (by decide) ⟨by omega, by omega⟩ (fun h96 => ?_) (fun h96 => ?_)
        · refine tm_iconst dX12_sum_40 ?_
          refine tm_istore_n (L' := [(2, .int (iI 2)), (1, .int (iI a)), (0, .ref b)]) dX12_sum_41 rfl (by decide) rfl ?_
          refine tm_aload_n dX12_sum_42 rfl 2 rfl ?_
          refine tm_getS (k := 39) (t := σ.1 39) dX12_sum_43 (by decide) fl12_285 rfl (rfl) ?_
          have g97 := RG.s hR 39
          refine tm_istore_n (L' := [(3, .int (iI (σ.1 39))), (2, .int (iI 2)), (1, .int (iI a)), (0, .ref b)]) dX12_sum_46 rfl (by decide) rfl ?_
          refine tm_aload_n dX12_sum_47 rfl 3 rfl ?_
          refine tm_getS (k := 40) (t := σ.1 40) dX12_sum_48 (by decide) fl12_288 rfl (rfl) ?_
          have g98 := RG.s hR 40
          refine tm_istore (L' := [(4, .int (iI (σ.1 40))), (3, .int (iI (σ.1 39))), (2, .int (iI 2)), (1, .int (iI a)), (0, .ref b)]) dX12_sum_51 (by decide) rfl ?_
          refine tm_aload_n dX12_sum_53 rfl 4 rfl ?_
          refine tm_callV (M := m_X12_sum) (pc := 54) (ix := 265) (M' := m_X12_advance) (As := []) (rest := []) dX12_sum_54 ok_X12_advance im_X12_advance se_X12_advance ml12_265 np_X12_advance rfl rfl (Nat.le_of_ble_eq_true rfl) (Nat.le_of_ble_eq_true rfl) rfl (c_X12_advance (d + 4 * lv + 5) (σ := σ)  hR (by have z := htr.2.2.1.1.1; omega)) (fun r99 σ100 hp => ?_)
          obtain ⟨rfl, f102, f103, f104, f105, f106⟩ := hp
          show Tm _ _ 57 b σ100 [(4, .int (iI (σ.1 40))), (3, .int (iI (σ.1 39))), (2, .int (iI 2)), (1, .int (iI a)), (0, .ref b)] [] _
          have gt := hgt
          unfold GTm at gt
          have mm1 : σ.1 19 < σ100.1 19 := by have z := tok2 (by first | (have z := (i43 (by omega)).1; omega) | (have z := (i45 (by omega)).1; omega)); omega
          clear tok2
          have tr7 := htr.adv f103 f105 f106 (by first | (have z := (i43 (by omega)).1; omega) | (have z := (i45 (by omega)).1; omega)) (fun q => u8m (n43b_ (by omega)) (by first | exact i45 (by omega) | exact absurd (i43 (by omega)) (n43b_ (by omega))) f102 (MSE.fr f103 (by decide) (by decide) (by decide)))
          have e28a : σ100.1 28 = σ.1 28 := f103.1 28 (by decide)
          have m34a : σ100.1 34 = σ.1 34 := f103.1 34 (by decide)
          refine tm_aload_n dX12_sum_57 rfl 4 rfl ?_
          refine tm_callV (M := m_X12_sum) (pc := 58) (ix := 314) (M' := m_X12_product) (As := []) (rest := []) dX12_sum_58 ok_X12_product im_X12_product se_X12_product ml12_314 np_X12_product rfl rfl (Nat.le_of_ble_eq_true rfl) (Nat.le_of_ble_eq_true rfl) rfl (c_X12_product (d) (σ := σ100)  hce f104 tr7.2.2.1 tr7.nn (by rw [e28a, h28s]; exact hl28)) (fun r107 σ108 hp => ?_)
          obtain ⟨v109, rfl, f110, f111, f112, f113, f114, f115, f116⟩ := hp
          show Tm _ _ 61 b σ108 [(4, .int (iI (σ.1 40))), (3, .int (iI (σ.1 39))), (2, .int (iI 2)), (1, .int (iI a)), (0, .ref b)] [.int (iI v109)] _
          have xp0 := f110
          have xp1 := f111
          have xp2 := f112
          have xp3 := f113
          have xp4 := f114
          have xp5 := f115
          have xp6 := f116
          refine tm_istore_n (L' := [(1, .int (iI v109)), (4, .int (iI (σ.1 40))), (3, .int (iI (σ.1 39))), (2, .int (iI 2)), (0, .ref b)]) dX12_sum_61 rfl (by decide) rfl ?_
          refine tm_iload_n dX12_sum_62 rfl 0 rfl ?_
          refine tm_if_eq (tgt := 82) dX12_sum_63 (by decide) ⟨by omega, by omega⟩ (fun h117 => ?_) (fun h117 => ?_)
          · refine tm_goto (tgt := 5) dX12_sum_82 (by decide) ?_
            refine tm_iload_n dX12_sum_5 rfl 0 rfl ?_
            refine tm_if_eq (tgt := 85) dX12_sum_6 (by decide) ⟨by omega, by omega⟩ (fun h118 => ?_) (fun h118 => ?_)
            · exact tm_sub [0, 4] rfl (hx_85 (v109) σ108 (((Fr.rfl.trans (Fr.sub hF (by decide) (by decide) (by decide))).trans (Fr.sub f103 (by decide) (by decide) (by decide))).trans (Fr.sub f111 (by decide) (by decide) (by decide))) f112 (by omega) (fun q => absurd q (by omega)) (fun _ => (tr7.fail xp3 (xp5.2 (by omega)))) (xp6.trans (e28a.trans h28s)))
            · exact absurd h118 (by omega)
          · have tr8 := tr7.sub xp3 (xp4 (by omega)) (xp5.1 (by omega))
            have gt2 := (xp4 (by omega)).2.2.1
            have mm2 := (xp4 (by omega)).2.1.1
            have m34b := xp3.2.2.2.2.2.1
            have e28b := (xp4 (by omega)).2.2.2.2
            have rdj := tr8.2.2.1.2
            have tkj := tr8.2.2.1.1.1
            have gt := gt2
            refine tm_aload_n dX12_sum_66 rfl 4 rfl ?_
            refine tm_iload_n dX12_sum_67 rfl 3 rfl ?_
            refine tm_iload_n dX12_sum_68 rfl 2 rfl ?_
            refine tm_iload dX12_sum_69 1 rfl ?_
            refine tm_aload_n dX12_sum_71 rfl 4 rfl ?_
            refine tm_getS (k := 39) (t := σ108.1 39) dX12_sum_72 (by decide) fl12_285 rfl (rfl) ?_
            have g119 := RG.s f112 39
            refine tm_aload_n dX12_sum_75 rfl 4 rfl ?_
            refine tm_getS (k := 40) (t := σ108.1 40) dX12_sum_76 (by decide) fl12_288 rfl (rfl) ?_
            have g120 := RG.s f112 40
            refine tm_callV (M := m_X12_sum) (pc := 79) (ix := 310) (M' := m_X12_joins) (As := [.int (iI 2), .int (iI (σ.1 39)), .int (iI (σ.1 40)), .int (iI (σ108.1 39)), .int (iI (σ108.1 40))]) (rest := []) dX12_sum_79 ok_X12_joins im_X12_joins se_X12_joins ml12_310 np_X12_joins rfl rfl (Nat.le_of_ble_eq_true rfl) (Nat.le_of_ble_eq_true rfl) rfl (c_X12_joins (d + 4 * lv + 7) (σ := σ108) (k := 2) (ak := σ.1 39) (a := σ.1 40) (bk := σ108.1 39) (c := σ108.1 40) f112 (by omega) (by decide) (by omega) (by have z := gt; unfold GTm at z; omega) (by omega) (by omega) (by omega)) (fun r121 σ122 hp => ?_)
            obtain ⟨rfl, f124, f125, f126, f127, f128, f129⟩ := hp
            show Tm _ _ 82 b σ122 [(1, .int (iI v109)), (4, .int (iI (σ.1 40))), (3, .int (iI (σ.1 39))), (2, .int (iI 2)), (0, .ref b)] [] _
            have tr9 := tr8.join (by decide) f124 f126 ⟨Eq.symm (rfl), Eq.symm (rfl)⟩ f129 f127 f128 (by decide) hrd
            have gtj : GTm σ122 := by unfold GTm; rw [f126.2.2.1, f126.2.2.2, f126.1]; exact ⟨Or.inr rfl, fun _ => by omega⟩
            have mm3 : σ122.1 19 = _ := f124.1 19 (by decide)
            have e28c : σ122.1 28 = σ0.1 28 := by rw [f124.1 28 (by decide), e28b, e28a]; exact h28s
            refine tm_goto (tgt := 5) dX12_sum_82 (by decide) ?_
            refine tm_iload_n dX12_sum_5 rfl 0 rfl ?_
            refine tm_if_eq (tgt := 85) dX12_sum_6 (by decide) ⟨by omega, by omega⟩ (fun h130 => ?_) (fun h130 => ?_)
            · exact absurd h130 (by omega)
            · exact tm_sub [0, 4] rfl (ih _ (by omega) (v109) σ122 ((((Fr.rfl.trans (Fr.sub hF (by decide) (by decide) (by decide))).trans (Fr.sub f103 (by decide) (by decide) (by decide))).trans (Fr.sub f111 (by decide) (by decide) (by decide))).trans (Fr.sub f124 (by decide) (by decide) (by decide))) f125 (by omega) (tr9.le (by decide)) gtj e28c rfl)
        · refine tm_iconst dX12_sum_36 ?_
          refine tm_goto (tgt := 41) dX12_sum_37 (by decide) ?_
          refine tm_istore_n (L' := [(2, .int (iI 1)), (1, .int (iI a)), (0, .ref b)]) dX12_sum_41 rfl (by decide) rfl ?_
          refine tm_aload_n dX12_sum_42 rfl 2 rfl ?_
          refine tm_getS (k := 39) (t := σ.1 39) dX12_sum_43 (by decide) fl12_285 rfl (rfl) ?_
          have g131 := RG.s hR 39
          refine tm_istore_n (L' := [(3, .int (iI (σ.1 39))), (2, .int (iI 1)), (1, .int (iI a)), (0, .ref b)]) dX12_sum_46 rfl (by decide) rfl ?_
          refine tm_aload_n dX12_sum_47 rfl 3 rfl ?_
          refine tm_getS (k := 40) (t := σ.1 40) dX12_sum_48 (by decide) fl12_288 rfl (rfl) ?_
          have g132 := RG.s hR 40
          refine tm_istore (L' := [(4, .int (iI (σ.1 40))), (3, .int (iI (σ.1 39))), (2, .int (iI 1)), (1, .int (iI a)), (0, .ref b)]) dX12_sum_51 (by decide) rfl ?_
          refine tm_aload_n dX12_sum_53 rfl 4 rfl ?_
          refine tm_callV (M := m_X12_sum) (pc := 54) (ix := 265) (M' := m_X12_advance) (As := []) (rest := []) dX12_sum_54 ok_X12_advance im_X12_advance se_X12_advance ml12_265 np_X12_advance rfl rfl (Nat.le_of_ble_eq_true rfl) (Nat.le_of_ble_eq_true rfl) rfl (c_X12_advance (d + 4 * lv + 5) (σ := σ)  hR (by have z := htr.2.2.1.1.1; omega)) (fun r133 σ134 hp => ?_)
          obtain ⟨rfl, f136, f137, f138, f139, f140⟩ := hp
          show Tm _ _ 57 b σ134 [(4, .int (iI (σ.1 40))), (3, .int (iI (σ.1 39))), (2, .int (iI 1)), (1, .int (iI a)), (0, .ref b)] [] _
          have gt := hgt
          unfold GTm at gt
          have mm1 : σ.1 19 < σ134.1 19 := by have z := tok2 (by first | (have z := (i43 (by omega)).1; omega) | (have z := (i45 (by omega)).1; omega)); omega
          clear tok2
          have tr10 := htr.adv f137 f139 f140 (by first | (have z := (i43 (by omega)).1; omega) | (have z := (i45 (by omega)).1; omega)) (fun q => u8p (i43b (by omega)) f136 (MSE.fr f137 (by decide) (by decide) (by decide)))
          have e28a : σ134.1 28 = σ.1 28 := f137.1 28 (by decide)
          have m34a : σ134.1 34 = σ.1 34 := f137.1 34 (by decide)
          refine tm_aload_n dX12_sum_57 rfl 4 rfl ?_
          refine tm_callV (M := m_X12_sum) (pc := 58) (ix := 314) (M' := m_X12_product) (As := []) (rest := []) dX12_sum_58 ok_X12_product im_X12_product se_X12_product ml12_314 np_X12_product rfl rfl (Nat.le_of_ble_eq_true rfl) (Nat.le_of_ble_eq_true rfl) rfl (c_X12_product (d) (σ := σ134)  hce f138 tr10.2.2.1 tr10.nn (by rw [e28a, h28s]; exact hl28)) (fun r141 σ142 hp => ?_)
          obtain ⟨v143, rfl, f144, f145, f146, f147, f148, f149, f150⟩ := hp
          show Tm _ _ 61 b σ142 [(4, .int (iI (σ.1 40))), (3, .int (iI (σ.1 39))), (2, .int (iI 1)), (1, .int (iI a)), (0, .ref b)] [.int (iI v143)] _
          have xp0 := f144
          have xp1 := f145
          have xp2 := f146
          have xp3 := f147
          have xp4 := f148
          have xp5 := f149
          have xp6 := f150
          refine tm_istore_n (L' := [(1, .int (iI v143)), (4, .int (iI (σ.1 40))), (3, .int (iI (σ.1 39))), (2, .int (iI 1)), (0, .ref b)]) dX12_sum_61 rfl (by decide) rfl ?_
          refine tm_iload_n dX12_sum_62 rfl 0 rfl ?_
          refine tm_if_eq (tgt := 82) dX12_sum_63 (by decide) ⟨by omega, by omega⟩ (fun h151 => ?_) (fun h151 => ?_)
          · refine tm_goto (tgt := 5) dX12_sum_82 (by decide) ?_
            refine tm_iload_n dX12_sum_5 rfl 0 rfl ?_
            refine tm_if_eq (tgt := 85) dX12_sum_6 (by decide) ⟨by omega, by omega⟩ (fun h152 => ?_) (fun h152 => ?_)
            · exact tm_sub [0, 4] rfl (hx_85 (v143) σ142 (((Fr.rfl.trans (Fr.sub hF (by decide) (by decide) (by decide))).trans (Fr.sub f137 (by decide) (by decide) (by decide))).trans (Fr.sub f145 (by decide) (by decide) (by decide))) f146 (by omega) (fun q => absurd q (by omega)) (fun _ => (tr10.fail xp3 (xp5.2 (by omega)))) (xp6.trans (e28a.trans h28s)))
            · exact absurd h152 (by omega)
          · have tr11 := tr10.sub xp3 (xp4 (by omega)) (xp5.1 (by omega))
            have gt2 := (xp4 (by omega)).2.2.1
            have mm2 := (xp4 (by omega)).2.1.1
            have m34b := xp3.2.2.2.2.2.1
            have e28b := (xp4 (by omega)).2.2.2.2
            have rdj := tr11.2.2.1.2
            have tkj := tr11.2.2.1.1.1
            have gt := gt2
            refine tm_aload_n dX12_sum_66 rfl 4 rfl ?_
            refine tm_iload_n dX12_sum_67 rfl 3 rfl ?_
            refine tm_iload_n dX12_sum_68 rfl 2 rfl ?_
            refine tm_iload dX12_sum_69 1 rfl ?_
            refine tm_aload_n dX12_sum_71 rfl 4 rfl ?_
            refine tm_getS (k := 39) (t := σ142.1 39) dX12_sum_72 (by decide) fl12_285 rfl (rfl) ?_
            have g153 := RG.s f146 39
            refine tm_aload_n dX12_sum_75 rfl 4 rfl ?_
            refine tm_getS (k := 40) (t := σ142.1 40) dX12_sum_76 (by decide) fl12_288 rfl (rfl) ?_
            have g154 := RG.s f146 40
            refine tm_callV (M := m_X12_sum) (pc := 79) (ix := 310) (M' := m_X12_joins) (As := [.int (iI 1), .int (iI (σ.1 39)), .int (iI (σ.1 40)), .int (iI (σ142.1 39)), .int (iI (σ142.1 40))]) (rest := []) dX12_sum_79 ok_X12_joins im_X12_joins se_X12_joins ml12_310 np_X12_joins rfl rfl (Nat.le_of_ble_eq_true rfl) (Nat.le_of_ble_eq_true rfl) rfl (c_X12_joins (d + 4 * lv + 7) (σ := σ142) (k := 1) (ak := σ.1 39) (a := σ.1 40) (bk := σ142.1 39) (c := σ142.1 40) f146 (by omega) (by decide) (by omega) (by have z := gt; unfold GTm at z; omega) (by omega) (by omega) (by omega)) (fun r155 σ156 hp => ?_)
            obtain ⟨rfl, f158, f159, f160, f161, f162, f163⟩ := hp
            show Tm _ _ 82 b σ156 [(1, .int (iI v143)), (4, .int (iI (σ.1 40))), (3, .int (iI (σ.1 39))), (2, .int (iI 1)), (0, .ref b)] [] _
            have tr12 := tr11.join (by decide) f158 f160 ⟨Eq.symm (rfl), Eq.symm (rfl)⟩ f163 f161 f162 (by decide) hrd
            have gtj : GTm σ156 := by unfold GTm; rw [f160.2.2.1, f160.2.2.2, f160.1]; exact ⟨Or.inr rfl, fun _ => by omega⟩
            have mm3 : σ156.1 19 = _ := f158.1 19 (by decide)
            have e28c : σ156.1 28 = σ0.1 28 := by rw [f158.1 28 (by decide), e28b, e28a]; exact h28s
            refine tm_goto (tgt := 5) dX12_sum_82 (by decide) ?_
            refine tm_iload_n dX12_sum_5 rfl 0 rfl ?_
            refine tm_if_eq (tgt := 85) dX12_sum_6 (by decide) ⟨by omega, by omega⟩ (fun h164 => ?_) (fun h164 => ?_)
            · exact absurd h164 (by omega)
            · exact tm_sub [0, 4] rfl (ih _ (by omega) (v143) σ156 ((((Fr.rfl.trans (Fr.sub hF (by decide) (by decide) (by decide))).trans (Fr.sub f137 (by decide) (by decide) (by decide))).trans (Fr.sub f145 (by decide) (by decide) (by decide))).trans (Fr.sub f158 (by decide) (by decide) (by decide))) f159 (by omega) (tr12.le (by decide)) gtj e28c rfl)
theorem dX12_sum_0 : decode cX12_sum 0 = .ok (.aload_n 0, 1) := by decide +kernel
theorem dX12_sum_1 : decode cX12_sum 1 = .ok (.invokevirtual 314, 3) := by decide +kernel
theorem dX12_sum_4 : decode cX12_sum 4 = .ok (.istore_n 1, 1) := by decide +kernel
theorem dX12_sum_85 : decode cX12_sum 85 = .ok (.iload_n 1, 1) := by decide +kernel
theorem dX12_sum_86 : decode cX12_sum 86 = .ok (.ireturn, 1) := by decide +kernel
set_option maxHeartbeats 4000000 in
set_option maxRecDepth 20000 in
theorem c_X12_sum (d : Nat) {b : Nat} {σ : MS} {lv : Nat} (hce : ∀ (d : Nat) {b : Nat} {σ : MS} (hR : RG σ) (hrd : RDY σ) (hnn : NN σ) (h28 : σ.1 28 = 8 - (lv : Int)), Tm (d + 4 * lv + 8) m_X12_expression 0 b σ [(0, .ref b)] [] (fun ro σ2 => ∃ v : Int, ro = some (.int (iI v)) ∧ ((v = 0 ∨ v = 1)) ∧ (Fr [19, 20, 22, 23, 26, 27, 28, 32, 34, 39, 40] [3, 4, 5, 6, 7, 8, 35] [24, 38] σ σ2) ∧ (RG σ2) ∧ (PBF σ σ2) ∧ (Im v 1 (EXS σ σ2)) ∧ (PRS 2 v σ σ2) ∧ (σ2.1 28 = σ.1 28))) (hR : RG σ) (hrd : RDY σ) (hnn : NN σ) (h28 : σ.1 28 = 8 - (lv : Int)) : Tm (d + 4 * lv + 11) m_X12_sum 0 b σ [(0, .ref b)] [] (fun ro σ2 => ∃ v : Int, ro = some (.int (iI v)) ∧ ((v = 0 ∨ v = 1)) ∧ (Fr [19, 20, 22, 23, 26, 27, 28, 32, 34, 39, 40] [3, 4, 5, 6, 7, 8, 35] [24, 38] σ σ2) ∧ (RG σ2) ∧ (PBF σ σ2) ∧ (Im v 1 (EXS σ σ2)) ∧ (PRS 3 v σ σ2) ∧ (σ2.1 28 = σ.1 28)) := by
  have tr0 : TRm 3 0 σ [3] σ [] := TRm.start hrd hnn
  have tr1 := tr0.nxt (fun q => u3)
  refine tm_aload_n dX12_sum_0 rfl 0 rfl ?_
  refine tm_callV (M := m_X12_sum) (pc := 1) (ix := 314) (M' := m_X12_product) (As := []) (rest := []) dX12_sum_1 ok_X12_product im_X12_product se_X12_product ml12_314 np_X12_product rfl rfl (Nat.le_of_ble_eq_true rfl) (Nat.le_of_ble_eq_true rfl) rfl (c_X12_product (d) (σ := σ)  hce hR hrd hnn h28) (fun r1 σ2 hp => ?_)
  obtain ⟨v3, rfl, f4, f5, f6, f7, f8, f9, f10⟩ := hp
  show Tm _ _ 4 b σ2 [(0, .ref b)] [.int (iI v3)] _
  have xp0 := f4
  have xp1 := f5
  have xp2 := f6
  have xp3 := f7
  have xp4 := f8
  have xp5 := f9
  have xp6 := f10
  refine tm_istore_n (L' := [(1, .int (iI v3)), (0, .ref b)]) dX12_sum_4 rfl (by decide) rfl ?_
  refine tm_iload_n dX12_sum_5 rfl 0 rfl ?_
  refine tm_if_eq (tgt := 85) dX12_sum_6 (by decide) ⟨by omega, by omega⟩ (fun h11 => ?_) (fun h11 => ?_)
  · refine tm_iload_n dX12_sum_85 rfl 0 rfl ?_
    exact tm_zret (v := v3) rfl (by omega) dX12_sum_86 (⟨_, rfl, by omega, (Fr.rfl.trans (Fr.sub f5 (by decide) (by decide) (by decide))), f6, (tr1.fail xp3 (xp5.2 (by omega))).1, fun q => absurd q (by omega), by rw [show v3 = 0 by omega]; exact PRS.no (tr1.fail xp3 (xp5.2 (by omega))).2, xp6⟩)
  · have tr2 := tr1.sub xp3 (xp4 (by omega)) (xp5.1 (by omega))
    have e28z := (xp4 (by omega)).2.2.2.2
    refine tm_sub [0, 1] rfl (l_rd_sum (d) (σ0 := σ2) hce f6 tr2.2.2.1 ((xp4 (by omega)).2.2.2.2.trans h28) (fun a20 σ21 F14 R15 f16 f17 f18 f19 => ?_) _ (v3) σ2 Fr.rfl f6 (by omega) (TRm.start (xp4 (by omega)).1 xp3.2.2.1) (xp4 (by omega)).2.2.1 rfl rfl)
    show Tm _ _ 85 b σ21 [(1, .int (iI a20)), (0, .ref b)] [] _
    refine tm_iload_n dX12_sum_85 rfl 0 rfl ?_
    exact tm_zret (v := a20) rfl (by omega) dX12_sum_86 (⟨_, rfl, by omega, ((Fr.rfl.trans (Fr.sub f5 (by decide) (by decide) (by decide))).trans (Fr.sub F14 (by decide) (by decide) (by decide))), R15, (by rcases f16 with z | z; exact tr2.1.trans (f18 z).1; exact tr2.1.trans (f17 z).1.1), fun z => (tr2.cat (f17 z).1).exs (by decide) (f17 z).2.1 ((f17 z).2.2.trans e28z), ⟨fun z q => (tr2.cat (f17 z).1).2.2.2.2 q, fun z q => (tr2.2.2.2.2 q).fail (((f18 z).2 q).more [])⟩, f19.trans xp6⟩)
end
section
theorem fl12_304 : Cond.fieldLink RX12 304 (TX12 28).1 (TX12 28).2.1 (TX12 28).2.2.1 ∈ pWW := pw7 (List.mem_of_getElem? (i := 35) rfl) rfl
theorem ml12_307 : Cond.methodLink RX12 307 yX12_sum ∈ pWW := pw8 (List.mem_of_getElem? (i := 221) rfl) rfl
theorem dX12_expression_0 : decode cX12_expression 0 = .ok (.aload_n 0, 1) := by decide +kernel
theorem dX12_expression_1 : decode cX12_expression 1 = .ok (.getfield 304, 3) := by decide +kernel
theorem dX12_expression_4 : decode cX12_expression 4 = .ok (.bipush 8, 2) := by decide +kernel
theorem dX12_expression_6 : decode cX12_expression 6 = .ok (.if_icmp .ne 8, 3) := by decide +kernel
theorem dX12_expression_14 : decode cX12_expression 14 = .ok (.aload_n 0, 1) := by decide +kernel
theorem dX12_expression_15 : decode cX12_expression 15 = .ok (.dup, 1) := by decide +kernel
theorem dX12_expression_16 : decode cX12_expression 16 = .ok (.getfield 304, 3) := by decide +kernel
theorem dX12_expression_19 : decode cX12_expression 19 = .ok (.iconst 1, 1) := by decide +kernel
theorem dX12_expression_20 : decode cX12_expression 20 = .ok (.iadd, 1) := by decide +kernel
theorem dX12_expression_21 : decode cX12_expression 21 = .ok (.putfield 304, 3) := by decide +kernel
theorem dX12_expression_24 : decode cX12_expression 24 = .ok (.aload_n 0, 1) := by decide +kernel
theorem dX12_expression_25 : decode cX12_expression 25 = .ok (.invokevirtual 307, 3) := by decide +kernel
theorem dX12_expression_28 : decode cX12_expression 28 = .ok (.istore_n 1, 1) := by decide +kernel
theorem dX12_expression_29 : decode cX12_expression 29 = .ok (.iload_n 1, 1) := by decide +kernel
theorem dX12_expression_30 : decode cX12_expression 30 = .ok (.ifCond .eq 76, 3) := by decide +kernel
theorem dX12_expression_106 : decode cX12_expression 106 = .ok (.aload_n 0, 1) := by decide +kernel
theorem dX12_expression_107 : decode cX12_expression 107 = .ok (.dup, 1) := by decide +kernel
theorem dX12_expression_108 : decode cX12_expression 108 = .ok (.getfield 304, 3) := by decide +kernel
theorem dX12_expression_111 : decode cX12_expression 111 = .ok (.iconst 1, 1) := by decide +kernel
theorem dX12_expression_112 : decode cX12_expression 112 = .ok (.isub, 1) := by decide +kernel
theorem dX12_expression_113 : decode cX12_expression 113 = .ok (.putfield 304, 3) := by decide +kernel
theorem dX12_expression_116 : decode cX12_expression 116 = .ok (.iload_n 1, 1) := by decide +kernel
theorem dX12_expression_117 : decode cX12_expression 117 = .ok (.ireturn, 1) := by decide +kernel
theorem dX12_expression_33 : decode cX12_expression 33 = .ok (.aload_n 0, 1) := by decide +kernel
theorem dX12_expression_34 : decode cX12_expression 34 = .ok (.bipush 61, 2) := by decide +kernel
theorem dX12_expression_36 : decode cX12_expression 36 = .ok (.invokevirtual 258, 3) := by decide +kernel
theorem dX12_expression_39 : decode cX12_expression 39 = .ok (.ifCond .ne 12, 3) := by decide +kernel
theorem dX12_expression_51 : decode cX12_expression 51 = .ok (.aload_n 0, 1) := by decide +kernel
theorem dX12_expression_52 : decode cX12_expression 52 = .ok (.bipush 61, 2) := by decide +kernel
theorem dX12_expression_54 : decode cX12_expression 54 = .ok (.invokevirtual 258, 3) := by decide +kernel
theorem dX12_expression_57 : decode cX12_expression 57 = .ok (.ifCond .eq 7, 3) := by decide +kernel
theorem dX12_expression_64 : decode cX12_expression 64 = .ok (.iconst 5, 1) := by decide +kernel
theorem dX12_expression_65 : decode cX12_expression 65 = .ok (.istore_n 2, 1) := by decide +kernel
theorem dX12_expression_66 : decode cX12_expression 66 = .ok (.aload_n 0, 1) := by decide +kernel
theorem dX12_expression_67 : decode cX12_expression 67 = .ok (.getfield 285, 3) := by decide +kernel
theorem dX12_expression_70 : decode cX12_expression 70 = .ok (.istore_n 3, 1) := by decide +kernel
theorem dX12_expression_71 : decode cX12_expression 71 = .ok (.aload_n 0, 1) := by decide +kernel
theorem dX12_expression_72 : decode cX12_expression 72 = .ok (.getfield 288, 3) := by decide +kernel
theorem dX12_expression_75 : decode cX12_expression 75 = .ok (.istore 4, 2) := by decide +kernel
theorem dX12_expression_77 : decode cX12_expression 77 = .ok (.aload_n 0, 1) := by decide +kernel
theorem dX12_expression_78 : decode cX12_expression 78 = .ok (.invokevirtual 265, 3) := by decide +kernel
theorem dX12_expression_81 : decode cX12_expression 81 = .ok (.aload_n 0, 1) := by decide +kernel
theorem dX12_expression_82 : decode cX12_expression 82 = .ok (.invokevirtual 307, 3) := by decide +kernel
theorem dX12_expression_85 : decode cX12_expression 85 = .ok (.istore_n 1, 1) := by decide +kernel
theorem dX12_expression_86 : decode cX12_expression 86 = .ok (.iload_n 1, 1) := by decide +kernel
theorem dX12_expression_87 : decode cX12_expression 87 = .ok (.ifCond .eq 19, 3) := by decide +kernel
theorem dX12_expression_90 : decode cX12_expression 90 = .ok (.aload_n 0, 1) := by decide +kernel
theorem dX12_expression_91 : decode cX12_expression 91 = .ok (.iload_n 2, 1) := by decide +kernel
theorem dX12_expression_92 : decode cX12_expression 92 = .ok (.iload_n 3, 1) := by decide +kernel
theorem dX12_expression_93 : decode cX12_expression 93 = .ok (.iload 4, 2) := by decide +kernel
theorem dX12_expression_95 : decode cX12_expression 95 = .ok (.aload_n 0, 1) := by decide +kernel
theorem dX12_expression_96 : decode cX12_expression 96 = .ok (.getfield 285, 3) := by decide +kernel
theorem dX12_expression_99 : decode cX12_expression 99 = .ok (.aload_n 0, 1) := by decide +kernel
theorem dX12_expression_100 : decode cX12_expression 100 = .ok (.getfield 288, 3) := by decide +kernel
theorem dX12_expression_103 : decode cX12_expression 103 = .ok (.invokevirtual 310, 3) := by decide +kernel
theorem dX12_expression_60 : decode cX12_expression 60 = .ok (.iconst 4, 1) := by decide +kernel
theorem dX12_expression_61 : decode cX12_expression 61 = .ok (.goto 4, 3) := by decide +kernel
theorem dX12_expression_42 : decode cX12_expression 42 = .ok (.aload_n 0, 1) := by decide +kernel
theorem dX12_expression_43 : decode cX12_expression 43 = .ok (.bipush 60, 2) := by decide +kernel
theorem dX12_expression_45 : decode cX12_expression 45 = .ok (.invokevirtual 258, 3) := by decide +kernel
theorem dX12_expression_48 : decode cX12_expression 48 = .ok (.ifCond .eq 58, 3) := by decide +kernel
theorem dX12_expression_9 : decode cX12_expression 9 = .ok (.aload_n 0, 1) := by decide +kernel
theorem dX12_expression_10 : decode cX12_expression 10 = .ok (.invokevirtual 261, 3) := by decide +kernel
theorem dX12_expression_13 : decode cX12_expression 13 = .ok (.ireturn, 1) := by decide +kernel
set_option maxHeartbeats 4000000 in
set_option maxRecDepth 20000 in
theorem cs_X12_expression (d : Nat) {b : Nat} {σ : MS} {lv : Nat} (hce : ∀ (d : Nat) {b : Nat} {σ : MS} (hR : RG σ) (hrd : RDY σ) (hnn : NN σ) (h28 : σ.1 28 = 8 - (lv : Int)), Tm (d + 4 * lv + 8) m_X12_expression 0 b σ [(0, .ref b)] [] (fun ro σ2 => ∃ v : Int, ro = some (.int (iI v)) ∧ ((v = 0 ∨ v = 1)) ∧ (Fr [19, 20, 22, 23, 26, 27, 28, 32, 34, 39, 40] [3, 4, 5, 6, 7, 8, 35] [24, 38] σ σ2) ∧ (RG σ2) ∧ (PBF σ σ2) ∧ (Im v 1 (EXS σ σ2)) ∧ (PRS 2 v σ σ2) ∧ (σ2.1 28 = σ.1 28))) (hR : RG σ) (hrd : RDY σ) (hnn : NN σ) (h28 : σ.1 28 = 7 - (lv : Int)) : Tm (d + 4 * lv + 12) m_X12_expression 0 b σ [(0, .ref b)] [] (fun ro σ2 => ∃ v : Int, ro = some (.int (iI v)) ∧ ((v = 0 ∨ v = 1)) ∧ (Fr [19, 20, 22, 23, 26, 27, 28, 32, 34, 39, 40] [3, 4, 5, 6, 7, 8, 35] [24, 38] σ σ2) ∧ (RG σ2) ∧ (PBF σ σ2) ∧ (Im v 1 (EXS σ σ2)) ∧ (PRS 2 v σ σ2) ∧ (σ2.1 28 = σ.1 28)) := by
  have rd0 := hrd
  unfold RDY at rd0
  have tr0 : TRm 2 0 σ [2] σ [] := TRm.start hrd hnn
  refine tm_aload_n dX12_expression_0 rfl 0 rfl ?_
  refine tm_getS (k := 28) (t := σ.1 28) dX12_expression_1 (by decide) fl12_304 rfl (rfl) ?_
  have g1 := RG.s hR 28
  refine tm_bipush dX12_expression_4 (by decide) ?_
  refine tm_icmp_ne (tgt := 14) dX12_expression_6 (by decide) ⟨by omega, by omega⟩ ⟨by decide, by decide⟩ (fun h2 => ?_) (fun h2 => ?_)
  · refine tm_aload_n dX12_expression_14 rfl 0 rfl ?_
    refine tm_dup dX12_expression_15 rfl ?_
    refine tm_getS (k := 28) (t := σ.1 28) dX12_expression_16 (by decide) fl12_304 rfl (rfl) ?_
    have g3 := RG.s hR 28
    refine tm_iconst dX12_expression_19 ?_
    refine tm_iadd dX12_expression_20 ?_
    refine tm_putS (k := 28) (v := (σ.1 28) + 1) lay_12 dX12_expression_21 (by decide) fl12_304 rfl (tyX12_ok 28 (by decide)) rfl rfl rfl ?_
    have tr1 := tr0.chg (show Fr [28] [] [] σ (sS 28 ((σ.1 28) + 1) σ) from (Fr.rfl.S (by decide))) (fun q => u2 (by omega) ⟨rfl, rfl, rfl, rfl⟩ (MSE.fr (show Fr [28] [] [] σ (sS 28 ((σ.1 28) + 1) σ) from (Fr.rfl.S (by decide))) (by decide) (by decide) (by decide)))
    refine tm_aload_n dX12_expression_24 rfl 0 rfl ?_
    refine tm_callV (M := m_X12_expression) (pc := 25) (ix := 307) (M' := m_X12_sum) (As := []) (rest := []) dX12_expression_25 ok_X12_sum im_X12_sum se_X12_sum ml12_307 np_X12_sum rfl rfl (Nat.le_of_ble_eq_true rfl) (Nat.le_of_ble_eq_true rfl) rfl (c_X12_sum (d) (σ := (sS 28 ((σ.1 28) + 1) σ))  hce (hR.S (by omega)) tr1.2.2.1 tr1.nn (by show σ.1 28 + 1 = _; omega)) (fun r4 σ5 hp => ?_)
    obtain ⟨v6, rfl, f7, f8, f9, f10, f11, f12, f13⟩ := hp
    show Tm _ _ 28 b σ5 [(0, .ref b)] [.int (iI v6)] _
    have xp0 := f7
    have xp1 := f8
    have xp2 := f9
    have xp3 := f10
    have xp4 := f11
    have xp5 := f12
    have xp6 := f13
    have e28o : σ5.1 28 = σ.1 28 + 1 := xp6
    refine tm_istore_n (L' := [(1, .int (iI v6)), (0, .ref b)]) dX12_expression_28 rfl (by decide) rfl ?_
    refine tm_iload_n dX12_expression_29 rfl 0 rfl ?_
    refine tm_if_eq (tgt := 106) dX12_expression_30 (by decide) ⟨by omega, by omega⟩ (fun h14 => ?_) (fun h14 => ?_)
    · refine tm_aload_n dX12_expression_106 rfl 1 rfl ?_
      refine tm_dup dX12_expression_107 rfl ?_
      refine tm_getS (k := 28) (t := σ5.1 28) dX12_expression_108 (by decide) fl12_304 rfl (rfl) ?_
      have g15 := RG.s f9 28
      refine tm_iconst dX12_expression_111 ?_
      refine tm_isub dX12_expression_112 ?_
      refine tm_putS (k := 28) (v := (σ5.1 28) - 1) lay_12 dX12_expression_113 (by decide) fl12_304 rfl (tyX12_ok 28 (by decide)) rfl rfl rfl ?_
      refine tm_iload_n dX12_expression_116 rfl 0 rfl ?_
      exact tm_zret (v := v6) rfl (by omega) dX12_expression_117 (⟨_, rfl, by omega, (((Fr.rfl.S (by decide)).trans (Fr.sub f8 (by decide) (by decide) (by decide))).S (by decide)), (f9.S (by omega)), (tr1.fail xp3 (xp5.2 (by omega))).1.trans (PBF.nop (tr1.fail xp3 (xp5.2 (by omega))).1.2.2.1 (show Fr [28] [] [] σ5 (sS 28 ((σ5.1 28) - 1) σ5) from (Fr.rfl.S (by decide))) (by decide) (by decide) (by decide)), fun q => absurd q (by omega), by rw [show v6 = 0 by omega]; exact PRS.no (fun q => ((tr1.fail xp3 (xp5.2 (by omega))).2 q).mv ((show Fr [28] [] [] σ5 (sS 28 ((σ5.1 28) - 1) σ5) from (Fr.rfl.S (by decide))).1 26 (by decide)) ((show Fr [28] [] [] σ5 (sS 28 ((σ5.1 28) - 1) σ5) from (Fr.rfl.S (by decide))).1 27 (by decide))), by show σ5.1 28 - 1 = σ.1 28; omega⟩)
    · have tr2 := tr1.sub xp3 (xp4 (by omega)) (xp5.1 (by omega))
      have gta := (xp4 (by omega)).2.2.1
      have e28a : σ5.1 28 = σ.1 28 + 1 := (xp4 (by omega)).2.2.2.2
      have rda := tr2.2.2.1
      unfold RDY at rda
      refine tm_aload_n dX12_expression_33 rfl 1 rfl ?_
      refine tm_bipush dX12_expression_34 (by decide) ?_
      refine tm_callV (M := m_X12_expression) (pc := 36) (ix := 258) (M' := m_X12_isSign) (As := [.int (iI 61)]) (rest := []) dX12_expression_36 ok_X12_isSign im_X12_isSign se_X12_isSign ml12_258 np_X12_isSign rfl rfl (Nat.le_of_ble_eq_true rfl) (Nat.le_of_ble_eq_true rfl) rfl (c2_X12_isSign (d + 4 * lv + 10) (σ := σ5) (c := 61) f9 (by omega)) (fun r16 σ17 hp => ?_)
      obtain ⟨v18, rfl, rfl, f19, f20, f21⟩ := hp
      show Tm _ _ 39 b σ5 [(1, .int (iI v6)), (0, .ref b)] [.int (iI v18)] _
      have i61 := f20
      have n61_ := f21
      refine tm_if_ne (tgt := 51) dX12_expression_39 (by decide) ⟨by omega, by omega⟩ (fun h22 => ?_) (fun h22 => ?_)
      · refine tm_aload_n dX12_expression_51 rfl 1 rfl ?_
        refine tm_bipush dX12_expression_52 (by decide) ?_
        refine tm_callV (M := m_X12_expression) (pc := 54) (ix := 258) (M' := m_X12_isSign) (As := [.int (iI 61)]) (rest := []) dX12_expression_54 ok_X12_isSign im_X12_isSign se_X12_isSign ml12_258 np_X12_isSign rfl rfl (Nat.le_of_ble_eq_true rfl) (Nat.le_of_ble_eq_true rfl) rfl (c2_X12_isSign (d + 4 * lv + 10) (σ := σ5) (c := 61) f9 (by omega)) (fun r23 σ24 hp => ?_)
        obtain ⟨v25, rfl, rfl, f26, f27, f28⟩ := hp
        show Tm _ _ 57 b σ5 [(1, .int (iI v6)), (0, .ref b)] [.int (iI v25)] _
        have i61b := f27
        have n61b_ := f28
        refine tm_if_eq (tgt := 64) dX12_expression_57 (by decide) ⟨by omega, by omega⟩ (fun h29 => ?_) (fun h29 => ?_)
        · refine tm_iconst dX12_expression_64 ?_
          refine tm_istore_n (L' := [(2, .int (iI 5)), (1, .int (iI v6)), (0, .ref b)]) dX12_expression_65 rfl (by decide) rfl ?_
          refine tm_aload_n dX12_expression_66 rfl 2 rfl ?_
          refine tm_getS (k := 39) (t := σ5.1 39) dX12_expression_67 (by decide) fl12_285 rfl (rfl) ?_
          have g30 := RG.s f9 39
          refine tm_istore_n (L' := [(3, .int (iI (σ5.1 39))), (2, .int (iI 5)), (1, .int (iI v6)), (0, .ref b)]) dX12_expression_70 rfl (by decide) rfl ?_
          refine tm_aload_n dX12_expression_71 rfl 3 rfl ?_
          refine tm_getS (k := 40) (t := σ5.1 40) dX12_expression_72 (by decide) fl12_288 rfl (rfl) ?_
          have g31 := RG.s f9 40
          refine tm_istore (L' := [(4, .int (iI (σ5.1 40))), (3, .int (iI (σ5.1 39))), (2, .int (iI 5)), (1, .int (iI v6)), (0, .ref b)]) dX12_expression_75 (by decide) rfl ?_
          refine tm_aload_n dX12_expression_77 rfl 4 rfl ?_
          refine tm_callV (M := m_X12_expression) (pc := 78) (ix := 265) (M' := m_X12_advance) (As := []) (rest := []) dX12_expression_78 ok_X12_advance im_X12_advance se_X12_advance ml12_265 np_X12_advance rfl rfl (Nat.le_of_ble_eq_true rfl) (Nat.le_of_ble_eq_true rfl) rfl (c_X12_advance (d + 4 * lv + 6) (σ := σ5)  f9 (by have z := tr2.2.2.1.1.1; omega)) (fun r32 σ33 hp => ?_)
          obtain ⟨rfl, f35, f36, f37, f38, f39⟩ := hp
          show Tm _ _ 81 b σ33 [(4, .int (iI (σ5.1 40))), (3, .int (iI (σ5.1 39))), (2, .int (iI 5)), (1, .int (iI v6)), (0, .ref b)] [] _
          have tr3 := tr2.adv f36 f38 f39 (by first | (have z := (i61 (by omega)).1; omega) | (have z := (i60 (by omega)).1; omega)) (fun q => u6l (n61b_ (by omega)) (by first | exact i60 (by omega) | exact absurd (i61 (by omega)) (n61b_ (by omega))) f35 (MSE.fr f36 (by decide) (by decide) (by decide)))
          have e28b : σ33.1 28 = σ.1 28 + 1 := by rw [f36.1 28 (by decide)]; exact e28a
          have m34a := f36.1 34 (by decide)
          refine tm_aload_n dX12_expression_81 rfl 4 rfl ?_
          refine tm_callV (M := m_X12_expression) (pc := 82) (ix := 307) (M' := m_X12_sum) (As := []) (rest := []) dX12_expression_82 ok_X12_sum im_X12_sum se_X12_sum ml12_307 np_X12_sum rfl rfl (Nat.le_of_ble_eq_true rfl) (Nat.le_of_ble_eq_true rfl) rfl (c_X12_sum (d) (σ := σ33)  hce f37 tr3.2.2.1 tr3.nn (by omega)) (fun r40 σ41 hp => ?_)
          obtain ⟨v42, rfl, f43, f44, f45, f46, f47, f48, f49⟩ := hp
          show Tm _ _ 85 b σ41 [(4, .int (iI (σ5.1 40))), (3, .int (iI (σ5.1 39))), (2, .int (iI 5)), (1, .int (iI v6)), (0, .ref b)] [.int (iI v42)] _
          have yp0 := f43
          have yp1 := f44
          have yp2 := f45
          have yp3 := f46
          have yp4 := f47
          have yp5 := f48
          have yp6 := f49
          have e28y : σ41.1 28 = σ.1 28 + 1 := yp6.trans e28b
          refine tm_istore_n (L' := [(1, .int (iI v42)), (4, .int (iI (σ5.1 40))), (3, .int (iI (σ5.1 39))), (2, .int (iI 5)), (0, .ref b)]) dX12_expression_85 rfl (by decide) rfl ?_
          refine tm_iload_n dX12_expression_86 rfl 0 rfl ?_
          refine tm_if_eq (tgt := 106) dX12_expression_87 (by decide) ⟨by omega, by omega⟩ (fun h50 => ?_) (fun h50 => ?_)
          · refine tm_aload_n dX12_expression_106 rfl 4 rfl ?_
            refine tm_dup dX12_expression_107 rfl ?_
            refine tm_getS (k := 28) (t := σ41.1 28) dX12_expression_108 (by decide) fl12_304 rfl (rfl) ?_
            have g51 := RG.s f45 28
            refine tm_iconst dX12_expression_111 ?_
            refine tm_isub dX12_expression_112 ?_
            refine tm_putS (k := 28) (v := (σ41.1 28) - 1) lay_12 dX12_expression_113 (by decide) fl12_304 rfl (tyX12_ok 28 (by decide)) rfl rfl rfl ?_
            refine tm_iload_n dX12_expression_116 rfl 0 rfl ?_
            exact tm_zret (v := v42) rfl (by omega) dX12_expression_117 (⟨_, rfl, by omega, (((((Fr.rfl.S (by decide)).trans (Fr.sub f8 (by decide) (by decide) (by decide))).trans (Fr.sub f36 (by decide) (by decide) (by decide))).trans (Fr.sub f44 (by decide) (by decide) (by decide))).S (by decide)), (f45.S (by omega)), (tr3.fail yp3 (yp5.2 (by omega))).1.trans (PBF.nop (tr3.fail yp3 (yp5.2 (by omega))).1.2.2.1 (show Fr [28] [] [] σ41 (sS 28 ((σ41.1 28) - 1) σ41) from (Fr.rfl.S (by decide))) (by decide) (by decide) (by decide)), fun q => absurd q (by omega), by rw [show v42 = 0 by omega]; exact PRS.no (fun q => ((tr3.fail yp3 (yp5.2 (by omega))).2 q).mv ((show Fr [28] [] [] σ41 (sS 28 ((σ41.1 28) - 1) σ41) from (Fr.rfl.S (by decide))).1 26 (by decide)) ((show Fr [28] [] [] σ41 (sS 28 ((σ41.1 28) - 1) σ41) from (Fr.rfl.S (by decide))).1 27 (by decide))), by show σ41.1 28 - 1 = σ.1 28; omega⟩)
          · have tr4 := tr3.sub yp3 (yp4 (by omega)) (yp5.1 (by omega))
            have gt := (yp4 (by omega)).2.2.1
            have gtz := gta
            unfold GTm at gtz
            have e28c : σ41.1 28 = σ.1 28 + 1 := by rw [(yp4 (by omega)).2.2.2.2]; exact e28b
            have m34b := yp3.2.2.2.2.2.1
            have rdj := tr4.2.2.1.2
            have tkj := tr4.2.2.1.1.1
            refine tm_aload_n dX12_expression_90 rfl 4 rfl ?_
            refine tm_iload_n dX12_expression_91 rfl 3 rfl ?_
            refine tm_iload_n dX12_expression_92 rfl 2 rfl ?_
            refine tm_iload dX12_expression_93 1 rfl ?_
            refine tm_aload_n dX12_expression_95 rfl 4 rfl ?_
            refine tm_getS (k := 39) (t := σ41.1 39) dX12_expression_96 (by decide) fl12_285 rfl (rfl) ?_
            have g52 := RG.s f45 39
            refine tm_aload_n dX12_expression_99 rfl 4 rfl ?_
            refine tm_getS (k := 40) (t := σ41.1 40) dX12_expression_100 (by decide) fl12_288 rfl (rfl) ?_
            have g53 := RG.s f45 40
            refine tm_callV (M := m_X12_expression) (pc := 103) (ix := 310) (M' := m_X12_joins) (As := [.int (iI 5), .int (iI (σ5.1 39)), .int (iI (σ5.1 40)), .int (iI (σ41.1 39)), .int (iI (σ41.1 40))]) (rest := []) dX12_expression_103 ok_X12_joins im_X12_joins se_X12_joins ml12_310 np_X12_joins rfl rfl (Nat.le_of_ble_eq_true rfl) (Nat.le_of_ble_eq_true rfl) rfl (c_X12_joins (d + 4 * lv + 8) (σ := σ41) (k := 5) (ak := σ5.1 39) (a := σ5.1 40) (bk := σ41.1 39) (c := σ41.1 40) f45 (by omega) (by decide) (by omega) (by have z := gt; unfold GTm at z; omega) (by omega) (by omega) (by omega)) (fun r54 σ55 hp => ?_)
            obtain ⟨rfl, f57, f58, f59, f60, f61, f62⟩ := hp
            show Tm _ _ 106 b σ55 [(1, .int (iI v42)), (4, .int (iI (σ5.1 40))), (3, .int (iI (σ5.1 39))), (2, .int (iI 5)), (0, .ref b)] [] _
            have tr5 := tr4.join (by decide) f57 f59 ⟨Eq.symm (rfl), Eq.symm (rfl)⟩ f62 f60 f61 (by decide) hrd
            have gtf : GTm σ55 := by unfold GTm; rw [f59.2.2.1, f59.2.2.2, f59.1]; exact ⟨Or.inr rfl, fun _ => by omega⟩
            have e28f : σ55.1 28 = σ.1 28 + 1 := by rw [f57.1 28 (by decide)]; exact e28c
            refine tm_aload_n dX12_expression_106 rfl 4 rfl ?_
            refine tm_dup dX12_expression_107 rfl ?_
            refine tm_getS (k := 28) (t := σ41.1 28) dX12_expression_108 (by decide) fl12_304 rfl (rs_F f57 (by decide) (rfl)) ?_
            have g63 := RG.s f45 28
            refine tm_iconst dX12_expression_111 ?_
            refine tm_isub dX12_expression_112 ?_
            refine tm_putS (k := 28) (v := (σ41.1 28) - 1) lay_12 dX12_expression_113 (by decide) fl12_304 rfl (tyX12_ok 28 (by decide)) rfl rfl rfl ?_
            have tr6 := tr5.chg (show Fr [28] [] [] σ55 (sS 28 ((σ41.1 28) - 1) σ55) from (Fr.rfl.S (by decide))) (fun q => u7 ⟨rfl, by rw [show σ55.1 28 = σ41.1 28 from rs_F f57 (by decide) (rfl)]; rfl, rfl, rfl⟩ (MSE.fr (show Fr [28] [] [] σ55 (sS 28 ((σ41.1 28) - 1) σ55) from (Fr.rfl.S (by decide))) (by decide) (by decide) (by decide)))
            refine tm_iload_n dX12_expression_116 rfl 0 rfl ?_
            exact tm_zret (v := v42) rfl (by omega) dX12_expression_117 (⟨_, rfl, by omega, ((((((Fr.rfl.S (by decide)).trans (Fr.sub f8 (by decide) (by decide) (by decide))).trans (Fr.sub f36 (by decide) (by decide) (by decide))).trans (Fr.sub f44 (by decide) (by decide) (by decide))).trans (Fr.sub f57 (by decide) (by decide) (by decide))).S (by decide)), (f58.S (by omega)), tr6.1, fun _ => tr6.exs (by decide) (gtf.fr (show Fr [28] [] [] σ55 (sS 28 ((σ41.1 28) - 1) σ55) from (Fr.rfl.S (by decide))) (by decide)) (by show σ41.1 28 - 1 = σ.1 28; omega), by rw [show v42 = 1 by omega]; exact tr6.prs, by show σ41.1 28 - 1 = σ.1 28; omega⟩)
        · refine tm_iconst dX12_expression_60 ?_
          refine tm_goto (tgt := 65) dX12_expression_61 (by decide) ?_
          refine tm_istore_n (L' := [(2, .int (iI 4)), (1, .int (iI v6)), (0, .ref b)]) dX12_expression_65 rfl (by decide) rfl ?_
          refine tm_aload_n dX12_expression_66 rfl 2 rfl ?_
          refine tm_getS (k := 39) (t := σ5.1 39) dX12_expression_67 (by decide) fl12_285 rfl (rfl) ?_
          have g64 := RG.s f9 39
          refine tm_istore_n (L' := [(3, .int (iI (σ5.1 39))), (2, .int (iI 4)), (1, .int (iI v6)), (0, .ref b)]) dX12_expression_70 rfl (by decide) rfl ?_
          refine tm_aload_n dX12_expression_71 rfl 3 rfl ?_
          refine tm_getS (k := 40) (t := σ5.1 40) dX12_expression_72 (by decide) fl12_288 rfl (rfl) ?_
          have g65 := RG.s f9 40
          refine tm_istore (L' := [(4, .int (iI (σ5.1 40))), (3, .int (iI (σ5.1 39))), (2, .int (iI 4)), (1, .int (iI v6)), (0, .ref b)]) dX12_expression_75 (by decide) rfl ?_
          refine tm_aload_n dX12_expression_77 rfl 4 rfl ?_
          refine tm_callV (M := m_X12_expression) (pc := 78) (ix := 265) (M' := m_X12_advance) (As := []) (rest := []) dX12_expression_78 ok_X12_advance im_X12_advance se_X12_advance ml12_265 np_X12_advance rfl rfl (Nat.le_of_ble_eq_true rfl) (Nat.le_of_ble_eq_true rfl) rfl (c_X12_advance (d + 4 * lv + 6) (σ := σ5)  f9 (by have z := tr2.2.2.1.1.1; omega)) (fun r66 σ67 hp => ?_)
          obtain ⟨rfl, f69, f70, f71, f72, f73⟩ := hp
          show Tm _ _ 81 b σ67 [(4, .int (iI (σ5.1 40))), (3, .int (iI (σ5.1 39))), (2, .int (iI 4)), (1, .int (iI v6)), (0, .ref b)] [] _
          have tr7 := tr2.adv f70 f72 f73 (by first | (have z := (i61 (by omega)).1; omega) | (have z := (i60 (by omega)).1; omega)) (fun q => u6e (i61b (by omega)) f69 (MSE.fr f70 (by decide) (by decide) (by decide)))
          have e28b : σ67.1 28 = σ.1 28 + 1 := by rw [f70.1 28 (by decide)]; exact e28a
          have m34a := f70.1 34 (by decide)
          refine tm_aload_n dX12_expression_81 rfl 4 rfl ?_
          refine tm_callV (M := m_X12_expression) (pc := 82) (ix := 307) (M' := m_X12_sum) (As := []) (rest := []) dX12_expression_82 ok_X12_sum im_X12_sum se_X12_sum ml12_307 np_X12_sum rfl rfl (Nat.le_of_ble_eq_true rfl) (Nat.le_of_ble_eq_true rfl) rfl (c_X12_sum (d) (σ := σ67)  hce f71 tr7.2.2.1 tr7.nn (by omega)) (fun r74 σ75 hp => ?_)
          obtain ⟨v76, rfl, f77, f78, f79, f80, f81, f82, f83⟩ := hp
          show Tm _ _ 85 b σ75 [(4, .int (iI (σ5.1 40))), (3, .int (iI (σ5.1 39))), (2, .int (iI 4)), (1, .int (iI v6)), (0, .ref b)] [.int (iI v76)] _
          have yp0 := f77
          have yp1 := f78
          have yp2 := f79
          have yp3 := f80
          have yp4 := f81
          have yp5 := f82
          have yp6 := f83
          have e28y : σ75.1 28 = σ.1 28 + 1 := yp6.trans e28b
          refine tm_istore_n (L' := [(1, .int (iI v76)), (4, .int (iI (σ5.1 40))), (3, .int (iI (σ5.1 39))), (2, .int (iI 4)), (0, .ref b)]) dX12_expression_85 rfl (by decide) rfl ?_
          refine tm_iload_n dX12_expression_86 rfl 0 rfl ?_
          refine tm_if_eq (tgt := 106) dX12_expression_87 (by decide) ⟨by omega, by omega⟩ (fun h84 => ?_) (fun h84 => ?_)
          · refine tm_aload_n dX12_expression_106 rfl 4 rfl ?_
            refine tm_dup dX12_expression_107 rfl ?_
            refine tm_getS (k := 28) (t := σ75.1 28) dX12_expression_108 (by decide) fl12_304 rfl (rfl) ?_
            have g85 := RG.s f79 28
            refine tm_iconst dX12_expression_111 ?_
            refine tm_isub dX12_expression_112 ?_
            refine tm_putS (k := 28) (v := (σ75.1 28) - 1) lay_12 dX12_expression_113 (by decide) fl12_304 rfl (tyX12_ok 28 (by decide)) rfl rfl rfl ?_
            refine tm_iload_n dX12_expression_116 rfl 0 rfl ?_
            exact tm_zret (v := v76) rfl (by omega) dX12_expression_117 (⟨_, rfl, by omega, (((((Fr.rfl.S (by decide)).trans (Fr.sub f8 (by decide) (by decide) (by decide))).trans (Fr.sub f70 (by decide) (by decide) (by decide))).trans (Fr.sub f78 (by decide) (by decide) (by decide))).S (by decide)), (f79.S (by omega)), (tr7.fail yp3 (yp5.2 (by omega))).1.trans (PBF.nop (tr7.fail yp3 (yp5.2 (by omega))).1.2.2.1 (show Fr [28] [] [] σ75 (sS 28 ((σ75.1 28) - 1) σ75) from (Fr.rfl.S (by decide))) (by decide) (by decide) (by decide)), fun q => absurd q (by omega), by rw [show v76 = 0 by omega]; exact PRS.no (fun q => ((tr7.fail yp3 (yp5.2 (by omega))).2 q).mv ((show Fr [28] [] [] σ75 (sS 28 ((σ75.1 28) - 1) σ75) from (Fr.rfl.S (by decide))).1 26 (by decide)) ((show Fr [28] [] [] σ75 (sS 28 ((σ75.1 28) - 1) σ75) from (Fr.rfl.S (by decide))).1 27 (by decide))), by show σ75.1 28 - 1 = σ.1 28; omega⟩)
          · have tr8 := tr7.sub yp3 (yp4 (by omega)) (yp5.1 (by omega))
            have gt := (yp4 (by omega)).2.2.1
            have gtz := gta
            unfold GTm at gtz
            have e28c : σ75.1 28 = σ.1 28 + 1 := by rw [(yp4 (by omega)).2.2.2.2]; exact e28b
            have m34b := yp3.2.2.2.2.2.1
            have rdj := tr8.2.2.1.2
            have tkj := tr8.2.2.1.1.1
            refine tm_aload_n dX12_expression_90 rfl 4 rfl ?_
            refine tm_iload_n dX12_expression_91 rfl 3 rfl ?_
            refine tm_iload_n dX12_expression_92 rfl 2 rfl ?_
            refine tm_iload dX12_expression_93 1 rfl ?_
            refine tm_aload_n dX12_expression_95 rfl 4 rfl ?_
            refine tm_getS (k := 39) (t := σ75.1 39) dX12_expression_96 (by decide) fl12_285 rfl (rfl) ?_
            have g86 := RG.s f79 39
            refine tm_aload_n dX12_expression_99 rfl 4 rfl ?_
            refine tm_getS (k := 40) (t := σ75.1 40) dX12_expression_100 (by decide) fl12_288 rfl (rfl) ?_
            have g87 := RG.s f79 40
            refine tm_callV (M := m_X12_expression) (pc := 103) (ix := 310) (M' := m_X12_joins) (As := [.int (iI 4), .int (iI (σ5.1 39)), .int (iI (σ5.1 40)), .int (iI (σ75.1 39)), .int (iI (σ75.1 40))]) (rest := []) dX12_expression_103 ok_X12_joins im_X12_joins se_X12_joins ml12_310 np_X12_joins rfl rfl (Nat.le_of_ble_eq_true rfl) (Nat.le_of_ble_eq_true rfl) rfl (c_X12_joins (d + 4 * lv + 8) (σ := σ75) (k := 4) (ak := σ5.1 39) (a := σ5.1 40) (bk := σ75.1 39) (c := σ75.1 40) f79 (by omega) (by decide) (by omega) (by have z := gt; unfold GTm at z; omega) (by omega) (by omega) (by omega)) (fun r88 σ89 hp => ?_)
            obtain ⟨rfl, f91, f92, f93, f94, f95, f96⟩ := hp
            show Tm _ _ 106 b σ89 [(1, .int (iI v76)), (4, .int (iI (σ5.1 40))), (3, .int (iI (σ5.1 39))), (2, .int (iI 4)), (0, .ref b)] [] _
            have tr9 := tr8.join (by decide) f91 f93 ⟨Eq.symm (rfl), Eq.symm (rfl)⟩ f96 f94 f95 (by decide) hrd
            have gtf : GTm σ89 := by unfold GTm; rw [f93.2.2.1, f93.2.2.2, f93.1]; exact ⟨Or.inr rfl, fun _ => by omega⟩
            have e28f : σ89.1 28 = σ.1 28 + 1 := by rw [f91.1 28 (by decide)]; exact e28c
            refine tm_aload_n dX12_expression_106 rfl 4 rfl ?_
            refine tm_dup dX12_expression_107 rfl ?_
            refine tm_getS (k := 28) (t := σ75.1 28) dX12_expression_108 (by decide) fl12_304 rfl (rs_F f91 (by decide) (rfl)) ?_
            have g97 := RG.s f79 28
            refine tm_iconst dX12_expression_111 ?_
            refine tm_isub dX12_expression_112 ?_
            refine tm_putS (k := 28) (v := (σ75.1 28) - 1) lay_12 dX12_expression_113 (by decide) fl12_304 rfl (tyX12_ok 28 (by decide)) rfl rfl rfl ?_
            have tr10 := tr9.chg (show Fr [28] [] [] σ89 (sS 28 ((σ75.1 28) - 1) σ89) from (Fr.rfl.S (by decide))) (fun q => u7 ⟨rfl, by rw [show σ89.1 28 = σ75.1 28 from rs_F f91 (by decide) (rfl)]; rfl, rfl, rfl⟩ (MSE.fr (show Fr [28] [] [] σ89 (sS 28 ((σ75.1 28) - 1) σ89) from (Fr.rfl.S (by decide))) (by decide) (by decide) (by decide)))
            refine tm_iload_n dX12_expression_116 rfl 0 rfl ?_
            exact tm_zret (v := v76) rfl (by omega) dX12_expression_117 (⟨_, rfl, by omega, ((((((Fr.rfl.S (by decide)).trans (Fr.sub f8 (by decide) (by decide) (by decide))).trans (Fr.sub f70 (by decide) (by decide) (by decide))).trans (Fr.sub f78 (by decide) (by decide) (by decide))).trans (Fr.sub f91 (by decide) (by decide) (by decide))).S (by decide)), (f92.S (by omega)), tr10.1, fun _ => tr10.exs (by decide) (gtf.fr (show Fr [28] [] [] σ89 (sS 28 ((σ75.1 28) - 1) σ89) from (Fr.rfl.S (by decide))) (by decide)) (by show σ75.1 28 - 1 = σ.1 28; omega), by rw [show v76 = 1 by omega]; exact tr10.prs, by show σ75.1 28 - 1 = σ.1 28; omega⟩)
      · refine tm_aload_n dX12_expression_42 rfl 1 rfl ?_
        refine tm_bipush dX12_expression_43 (by decide) ?_
        refine tm_callV (M := m_X12_expression) (pc := 45) (ix := 258) (M' := m_X12_isSign) (As := [.int (iI 60)]) (rest := []) dX12_expression_45 ok_X12_isSign im_X12_isSign se_X12_isSign ml12_258 np_X12_isSign rfl rfl (Nat.le_of_ble_eq_true rfl) (Nat.le_of_ble_eq_true rfl) rfl (c2_X12_isSign (d + 4 * lv + 10) (σ := σ5) (c := 60) f9 (by omega)) (fun r98 σ99 hp => ?_)
        obtain ⟨v100, rfl, rfl, f101, f102, f103⟩ := hp
        show Tm _ _ 48 b σ5 [(1, .int (iI v6)), (0, .ref b)] [.int (iI v100)] _
        have i60 := f102
        have n60_ := f103
        refine tm_if_eq (tgt := 106) dX12_expression_48 (by decide) ⟨by omega, by omega⟩ (fun h104 => ?_) (fun h104 => ?_)
        · have tr11 := tr2.nxt (fun q => u6n (n61_ (by omega)) (n60_ (by omega)))
          have gtf := gta
          have e28f := e28a
          refine tm_aload_n dX12_expression_106 rfl 1 rfl ?_
          refine tm_dup dX12_expression_107 rfl ?_
          refine tm_getS (k := 28) (t := σ5.1 28) dX12_expression_108 (by decide) fl12_304 rfl (rfl) ?_
          have g105 := RG.s f9 28
          refine tm_iconst dX12_expression_111 ?_
          refine tm_isub dX12_expression_112 ?_
          refine tm_putS (k := 28) (v := (σ5.1 28) - 1) lay_12 dX12_expression_113 (by decide) fl12_304 rfl (tyX12_ok 28 (by decide)) rfl rfl rfl ?_
          have tr12 := tr11.chg (show Fr [28] [] [] σ5 (sS 28 ((σ5.1 28) - 1) σ5) from (Fr.rfl.S (by decide))) (fun q => u7 ⟨rfl, by rw [show σ5.1 28 = σ5.1 28 from rfl]; rfl, rfl, rfl⟩ (MSE.fr (show Fr [28] [] [] σ5 (sS 28 ((σ5.1 28) - 1) σ5) from (Fr.rfl.S (by decide))) (by decide) (by decide) (by decide)))
          refine tm_iload_n dX12_expression_116 rfl 0 rfl ?_
          exact tm_zret (v := v6) rfl (by omega) dX12_expression_117 (⟨_, rfl, by omega, (((Fr.rfl.S (by decide)).trans (Fr.sub f8 (by decide) (by decide) (by decide))).S (by decide)), (f9.S (by omega)), tr12.1, fun _ => tr12.exs (by decide) (gtf.fr (show Fr [28] [] [] σ5 (sS 28 ((σ5.1 28) - 1) σ5) from (Fr.rfl.S (by decide))) (by decide)) (by show σ5.1 28 - 1 = σ.1 28; omega), by rw [show v6 = 1 by omega]; exact tr12.prs, by show σ5.1 28 - 1 = σ.1 28; omega⟩)
        · refine tm_aload_n dX12_expression_51 rfl 1 rfl ?_
          refine tm_bipush dX12_expression_52 (by decide) ?_
          refine tm_callV (M := m_X12_expression) (pc := 54) (ix := 258) (M' := m_X12_isSign) (As := [.int (iI 61)]) (rest := []) dX12_expression_54 ok_X12_isSign im_X12_isSign se_X12_isSign ml12_258 np_X12_isSign rfl rfl (Nat.le_of_ble_eq_true rfl) (Nat.le_of_ble_eq_true rfl) rfl (c2_X12_isSign (d + 4 * lv + 10) (σ := σ5) (c := 61) f9 (by omega)) (fun r106 σ107 hp => ?_)
          obtain ⟨v108, rfl, rfl, f109, f110, f111⟩ := hp
          show Tm _ _ 57 b σ5 [(1, .int (iI v6)), (0, .ref b)] [.int (iI v108)] _
          have i61b := f110
          have n61b_ := f111
          refine tm_if_eq (tgt := 64) dX12_expression_57 (by decide) ⟨by omega, by omega⟩ (fun h112 => ?_) (fun h112 => ?_)
          · refine tm_iconst dX12_expression_64 ?_
            refine tm_istore_n (L' := [(2, .int (iI 5)), (1, .int (iI v6)), (0, .ref b)]) dX12_expression_65 rfl (by decide) rfl ?_
            refine tm_aload_n dX12_expression_66 rfl 2 rfl ?_
            refine tm_getS (k := 39) (t := σ5.1 39) dX12_expression_67 (by decide) fl12_285 rfl (rfl) ?_
            have g113 := RG.s f9 39
            refine tm_istore_n (L' := [(3, .int (iI (σ5.1 39))), (2, .int (iI 5)), (1, .int (iI v6)), (0, .ref b)]) dX12_expression_70 rfl (by decide) rfl ?_
            refine tm_aload_n dX12_expression_71 rfl 3 rfl ?_
            refine tm_getS (k := 40) (t := σ5.1 40) dX12_expression_72 (by decide) fl12_288 rfl (rfl) ?_
            have g114 := RG.s f9 40
            refine tm_istore (L' := [(4, .int (iI (σ5.1 40))), (3, .int (iI (σ5.1 39))), (2, .int (iI 5)), (1, .int (iI v6)), (0, .ref b)]) dX12_expression_75 (by decide) rfl ?_
            refine tm_aload_n dX12_expression_77 rfl 4 rfl ?_
            refine tm_callV (M := m_X12_expression) (pc := 78) (ix := 265) (M' := m_X12_advance) (As := []) (rest := []) dX12_expression_78 ok_X12_advance im_X12_advance se_X12_advance ml12_265 np_X12_advance rfl rfl (Nat.le_of_ble_eq_true rfl) (Nat.le_of_ble_eq_true rfl) rfl (c_X12_advance (d + 4 * lv + 6) (σ := σ5)  f9 (by have z := tr2.2.2.1.1.1; omega)) (fun r115 σ116 hp => ?_)
            obtain ⟨rfl, f118, f119, f120, f121, f122⟩ := hp
            show Tm _ _ 81 b σ116 [(4, .int (iI (σ5.1 40))), (3, .int (iI (σ5.1 39))), (2, .int (iI 5)), (1, .int (iI v6)), (0, .ref b)] [] _
            have tr13 := tr2.adv f119 f121 f122 (by first | (have z := (i61 (by omega)).1; omega) | (have z := (i60 (by omega)).1; omega)) (fun q => u6l (n61b_ (by omega)) (by first | exact i60 (by omega) | exact absurd (i61 (by omega)) (n61b_ (by omega))) f118 (MSE.fr f119 (by decide) (by decide) (by decide)))
            have e28b : σ116.1 28 = σ.1 28 + 1 := by rw [f119.1 28 (by decide)]; exact e28a
            have m34a := f119.1 34 (by decide)
            refine tm_aload_n dX12_expression_81 rfl 4 rfl ?_
            refine tm_callV (M := m_X12_expression) (pc := 82) (ix := 307) (M' := m_X12_sum) (As := []) (rest := []) dX12_expression_82 ok_X12_sum im_X12_sum se_X12_sum ml12_307 np_X12_sum rfl rfl (Nat.le_of_ble_eq_true rfl) (Nat.le_of_ble_eq_true rfl) rfl (c_X12_sum (d) (σ := σ116)  hce f120 tr13.2.2.1 tr13.nn (by omega)) (fun r123 σ124 hp => ?_)
            obtain ⟨v125, rfl, f126, f127, f128, f129, f130, f131, f132⟩ := hp
            show Tm _ _ 85 b σ124 [(4, .int (iI (σ5.1 40))), (3, .int (iI (σ5.1 39))), (2, .int (iI 5)), (1, .int (iI v6)), (0, .ref b)] [.int (iI v125)] _
            have yp0 := f126
            have yp1 := f127
            have yp2 := f128
            have yp3 := f129
            have yp4 := f130
            have yp5 := f131
            have yp6 := f132
            have e28y : σ124.1 28 = σ.1 28 + 1 := yp6.trans e28b
            refine tm_istore_n (L' := [(1, .int (iI v125)), (4, .int (iI (σ5.1 40))), (3, .int (iI (σ5.1 39))), (2, .int (iI 5)), (0, .ref b)]) dX12_expression_85 rfl (by decide) rfl ?_
            refine tm_iload_n dX12_expression_86 rfl 0 rfl ?_
            refine tm_if_eq (tgt := 106) dX12_expression_87 (by decide) ⟨by omega, by omega⟩ (fun h133 => ?_) (fun h133 => ?_)
            · refine tm_aload_n dX12_expression_106 rfl 4 rfl ?_
              refine tm_dup dX12_expression_107 rfl ?_
              refine tm_getS (k := 28) (t := σ124.1 28) dX12_expression_108 (by decide) fl12_304 rfl (rfl) ?_
              have g134 := RG.s f128 28
              refine tm_iconst dX12_expression_111 ?_
              refine tm_isub dX12_expression_112 ?_
              refine tm_putS (k := 28) (v := (σ124.1 28) - 1) lay_12 dX12_expression_113 (by decide) fl12_304 rfl (tyX12_ok 28 (by decide)) rfl rfl rfl ?_
              refine tm_iload_n dX12_expression_116 rfl 0 rfl ?_
              exact tm_zret (v := v125) rfl (by omega) dX12_expression_117 (⟨_, rfl, by omega, (((((Fr.rfl.S (by decide)).trans (Fr.sub f8 (by decide) (by decide) (by decide))).trans (Fr.sub f119 (by decide) (by decide) (by decide))).trans (Fr.sub f127 (by decide) (by decide) (by decide))).S (by decide)), (f128.S (by omega)), (tr13.fail yp3 (yp5.2 (by omega))).1.trans (PBF.nop (tr13.fail yp3 (yp5.2 (by omega))).1.2.2.1 (show Fr [28] [] [] σ124 (sS 28 ((σ124.1 28) - 1) σ124) from (Fr.rfl.S (by decide))) (by decide) (by decide) (by decide)), fun q => absurd q (by omega), by rw [show v125 = 0 by omega]; exact PRS.no (fun q => ((tr13.fail yp3 (yp5.2 (by omega))).2 q).mv ((show Fr [28] [] [] σ124 (sS 28 ((σ124.1 28) - 1) σ124) from (Fr.rfl.S (by decide))).1 26 (by decide)) ((show Fr [28] [] [] σ124 (sS 28 ((σ124.1 28) - 1) σ124) from (Fr.rfl.S (by decide))).1 27 (by decide))), by show σ124.1 28 - 1 = σ.1 28; omega⟩)
            · have tr14 := tr13.sub yp3 (yp4 (by omega)) (yp5.1 (by omega))
              have gt := (yp4 (by omega)).2.2.1
              have gtz := gta
              unfold GTm at gtz
              have e28c : σ124.1 28 = σ.1 28 + 1 := by rw [(yp4 (by omega)).2.2.2.2]; exact e28b
              have m34b := yp3.2.2.2.2.2.1
              have rdj := tr14.2.2.1.2
              have tkj := tr14.2.2.1.1.1
              refine tm_aload_n dX12_expression_90 rfl 4 rfl ?_
              refine tm_iload_n dX12_expression_91 rfl 3 rfl ?_
              refine tm_iload_n dX12_expression_92 rfl 2 rfl ?_
              refine tm_iload dX12_expression_93 1 rfl ?_
              refine tm_aload_n dX12_expression_95 rfl 4 rfl ?_
              refine tm_getS (k := 39) (t := σ124.1 39) dX12_expression_96 (by decide) fl12_285 rfl (rfl) ?_
              have g135 := RG.s f128 39
              refine tm_aload_n dX12_expression_99 rfl 4 rfl ?_
              refine tm_getS (k := 40) (t := σ124.1 40) dX12_expression_100 (by decide) fl12_288 rfl (rfl) ?_
              have g136 := RG.s f128 40
              refine tm_callV (M := m_X12_expression) (pc := 103) (ix := 310) (M' := m_X12_joins) (As := [.int (iI 5), .int (iI (σ5.1 39)), .int (iI (σ5.1 40)), .int (iI (σ124.1 39)), .int (iI (σ124.1 40))]) (rest := []) dX12_expression_103 ok_X12_joins im_X12_joins se_X12_joins ml12_310 np_X12_joins rfl rfl (Nat.le_of_ble_eq_true rfl) (Nat.le_of_ble_eq_true rfl) rfl (c_X12_joins (d + 4 * lv + 8) (σ := σ124) (k := 5) (ak := σ5.1 39) (a := σ5.1 40) (bk := σ124.1 39) (c := σ124.1 40) f128 (by omega) (by decide) (by omega) (by have z := gt; unfold GTm at z; omega) (by omega) (by omega) (by omega)) (fun r137 σ138 hp => ?_)
              obtain ⟨rfl, f140, f141, f142, f143, f144, f145⟩ := hp
              show Tm _ _ 106 b σ138 [(1, .int (iI v125)), (4, .int (iI (σ5.1 40))), (3, .int (iI (σ5.1 39))), (2, .int (iI 5)), (0, .ref b)] [] _
              have tr15 := tr14.join (by decide) f140 f142 ⟨Eq.symm (rfl), Eq.symm (rfl)⟩ f145 f143 f144 (by decide) hrd
              have gtf : GTm σ138 := by unfold GTm; rw [f142.2.2.1, f142.2.2.2, f142.1]; exact ⟨Or.inr rfl, fun _ => by omega⟩
              have e28f : σ138.1 28 = σ.1 28 + 1 := by rw [f140.1 28 (by decide)]; exact e28c
              refine tm_aload_n dX12_expression_106 rfl 4 rfl ?_
              refine tm_dup dX12_expression_107 rfl ?_
              refine tm_getS (k := 28) (t := σ124.1 28) dX12_expression_108 (by decide) fl12_304 rfl (rs_F f140 (by decide) (rfl)) ?_
              have g146 := RG.s f128 28
              refine tm_iconst dX12_expression_111 ?_
              refine tm_isub dX12_expression_112 ?_
              refine tm_putS (k := 28) (v := (σ124.1 28) - 1) lay_12 dX12_expression_113 (by decide) fl12_304 rfl (tyX12_ok 28 (by decide)) rfl rfl rfl ?_
              have tr16 := tr15.chg (show Fr [28] [] [] σ138 (sS 28 ((σ124.1 28) - 1) σ138) from (Fr.rfl.S (by decide))) (fun q => u7 ⟨rfl, by rw [show σ138.1 28 = σ124.1 28 from rs_F f140 (by decide) (rfl)]; rfl, rfl, rfl⟩ (MSE.fr (show Fr [28] [] [] σ138 (sS 28 ((σ124.1 28) - 1) σ138) from (Fr.rfl.S (by decide))) (by decide) (by decide) (by decide)))
              refine tm_iload_n dX12_expression_116 rfl 0 rfl ?_
              exact tm_zret (v := v125) rfl (by omega) dX12_expression_117 (⟨_, rfl, by omega, ((((((Fr.rfl.S (by decide)).trans (Fr.sub f8 (by decide) (by decide) (by decide))).trans (Fr.sub f119 (by decide) (by decide) (by decide))).trans (Fr.sub f127 (by decide) (by decide) (by decide))).trans (Fr.sub f140 (by decide) (by decide) (by decide))).S (by decide)), (f141.S (by omega)), tr16.1, fun _ => tr16.exs (by decide) (gtf.fr (show Fr [28] [] [] σ138 (sS 28 ((σ124.1 28) - 1) σ138) from (Fr.rfl.S (by decide))) (by decide)) (by show σ124.1 28 - 1 = σ.1 28; omega), by rw [show v125 = 1 by omega]; exact tr16.prs, by show σ124.1 28 - 1 = σ.1 28; omega⟩)
          · refine tm_iconst dX12_expression_60 ?_
            refine tm_goto (tgt := 65) dX12_expression_61 (by decide) ?_
            refine tm_istore_n (L' := [(2, .int (iI 4)), (1, .int (iI v6)), (0, .ref b)]) dX12_expression_65 rfl (by decide) rfl ?_
            refine tm_aload_n dX12_expression_66 rfl 2 rfl ?_
            refine tm_getS (k := 39) (t := σ5.1 39) dX12_expression_67 (by decide) fl12_285 rfl (rfl) ?_
            have g147 := RG.s f9 39
            refine tm_istore_n (L' := [(3, .int (iI (σ5.1 39))), (2, .int (iI 4)), (1, .int (iI v6)), (0, .ref b)]) dX12_expression_70 rfl (by decide) rfl ?_
            refine tm_aload_n dX12_expression_71 rfl 3 rfl ?_
            refine tm_getS (k := 40) (t := σ5.1 40) dX12_expression_72 (by decide) fl12_288 rfl (rfl) ?_
            have g148 := RG.s f9 40
            refine tm_istore (L' := [(4, .int (iI (σ5.1 40))), (3, .int (iI (σ5.1 39))), (2, .int (iI 4)), (1, .int (iI v6)), (0, .ref b)]) dX12_expression_75 (by decide) rfl ?_
            refine tm_aload_n dX12_expression_77 rfl 4 rfl ?_
            refine tm_callV (M := m_X12_expression) (pc := 78) (ix := 265) (M' := m_X12_advance) (As := []) (rest := []) dX12_expression_78 ok_X12_advance im_X12_advance se_X12_advance ml12_265 np_X12_advance rfl rfl (Nat.le_of_ble_eq_true rfl) (Nat.le_of_ble_eq_true rfl) rfl (c_X12_advance (d + 4 * lv + 6) (σ := σ5)  f9 (by have z := tr2.2.2.1.1.1; omega)) (fun r149 σ150 hp => ?_)
            obtain ⟨rfl, f152, f153, f154, f155, f156⟩ := hp
            show Tm _ _ 81 b σ150 [(4, .int (iI (σ5.1 40))), (3, .int (iI (σ5.1 39))), (2, .int (iI 4)), (1, .int (iI v6)), (0, .ref b)] [] _
            have tr17 := tr2.adv f153 f155 f156 (by first | (have z := (i61 (by omega)).1; omega) | (have z := (i60 (by omega)).1; omega)) (fun q => u6e (i61b (by omega)) f152 (MSE.fr f153 (by decide) (by decide) (by decide)))
            have e28b : σ150.1 28 = σ.1 28 + 1 := by rw [f153.1 28 (by decide)]; exact e28a
            have m34a := f153.1 34 (by decide)
            refine tm_aload_n dX12_expression_81 rfl 4 rfl ?_
            refine tm_callV (M := m_X12_expression) (pc := 82) (ix := 307) (M' := m_X12_sum) (As := []) (rest := []) dX12_expression_82 ok_X12_sum im_X12_sum se_X12_sum ml12_307 np_X12_sum rfl rfl (Nat.le_of_ble_eq_true rfl) (Nat.le_of_ble_eq_true rfl) rfl (c_X12_sum (d) (σ := σ150)  hce f154 tr17.2.2.1 tr17.nn (by omega)) (fun r157 σ158 hp => ?_)
            obtain ⟨v159, rfl, f160, f161, f162, f163, f164, f165, f166⟩ := hp
            show Tm _ _ 85 b σ158 [(4, .int (iI (σ5.1 40))), (3, .int (iI (σ5.1 39))), (2, .int (iI 4)), (1, .int (iI v6)), (0, .ref b)] [.int (iI v159)] _
            have yp0 := f160
            have yp1 := f161
            have yp2 := f162
            have yp3 := f163
            have yp4 := f164
            have yp5 := f165
            have yp6 := f166
            have e28y : σ158.1 28 = σ.1 28 + 1 := yp6.trans e28b
            refine tm_istore_n (L' := [(1, .int (iI v159)), (4, .int (iI (σ5.1 40))), (3, .int (iI (σ5.1 39))), (2, .int (iI 4)), (0, .ref b)]) dX12_expression_85 rfl (by decide) rfl ?_
            refine tm_iload_n dX12_expression_86 rfl 0 rfl ?_
            refine tm_if_eq (tgt := 106) dX12_expression_87 (by decide) ⟨by omega, by omega⟩ (fun h167 => ?_) (fun h167 => ?_)
            · refine tm_aload_n dX12_expression_106 rfl 4 rfl ?_
              refine tm_dup dX12_expression_107 rfl ?_
              refine tm_getS (k := 28) (t := σ158.1 28) dX12_expression_108 (by decide) fl12_304 rfl (rfl) ?_
              have g168 := RG.s f162 28
              refine tm_iconst dX12_expression_111 ?_
              refine tm_isub dX12_expression_112 ?_
              refine tm_putS (k := 28) (v := (σ158.1 28) - 1) lay_12 dX12_expression_113 (by decide) fl12_304 rfl (tyX12_ok 28 (by decide)) rfl rfl rfl ?_
              refine tm_iload_n dX12_expression_116 rfl 0 rfl ?_
              exact tm_zret (v := v159) rfl (by omega) dX12_expression_117 (⟨_, rfl, by omega, (((((Fr.rfl.S (by decide)).trans (Fr.sub f8 (by decide) (by decide) (by decide))).trans (Fr.sub f153 (by decide) (by decide) (by decide))).trans (Fr.sub f161 (by decide) (by decide) (by decide))).S (by decide)), (f162.S (by omega)), (tr17.fail yp3 (yp5.2 (by omega))).1.trans (PBF.nop (tr17.fail yp3 (yp5.2 (by omega))).1.2.2.1 (show Fr [28] [] [] σ158 (sS 28 ((σ158.1 28) - 1) σ158) from (Fr.rfl.S (by decide))) (by decide) (by decide) (by decide)), fun q => absurd q (by omega), by rw [show v159 = 0 by omega]; exact PRS.no (fun q => ((tr17.fail yp3 (yp5.2 (by omega))).2 q).mv ((show Fr [28] [] [] σ158 (sS 28 ((σ158.1 28) - 1) σ158) from (Fr.rfl.S (by decide))).1 26 (by decide)) ((show Fr [28] [] [] σ158 (sS 28 ((σ158.1 28) - 1) σ158) from (Fr.rfl.S (by decide))).1 27 (by decide))), by show σ158.1 28 - 1 = σ.1 28; omega⟩)
            · have tr18 := tr17.sub yp3 (yp4 (by omega)) (yp5.1 (by omega))
              have gt := (yp4 (by omega)).2.2.1
              have gtz := gta
              unfold GTm at gtz
              have e28c : σ158.1 28 = σ.1 28 + 1 := by rw [(yp4 (by omega)).2.2.2.2]; exact e28b
              have m34b := yp3.2.2.2.2.2.1
              have rdj := tr18.2.2.1.2
              have tkj := tr18.2.2.1.1.1
              refine tm_aload_n dX12_expression_90 rfl 4 rfl ?_
              refine tm_iload_n dX12_expression_91 rfl 3 rfl ?_
              refine tm_iload_n dX12_expression_92 rfl 2 rfl ?_
              refine tm_iload dX12_expression_93 1 rfl ?_
              refine tm_aload_n dX12_expression_95 rfl 4 rfl ?_
              refine tm_getS (k := 39) (t := σ158.1 39) dX12_expression_96 (by decide) fl12_285 rfl (rfl) ?_
              have g169 := RG.s f162 39
              refine tm_aload_n dX12_expression_99 rfl 4 rfl ?_
              refine tm_getS (k := 40) (t := σ158.1 40) dX12_expression_100 (by decide) fl12_288 rfl (rfl) ?_
              have g170 := RG.s f162 40
              refine tm_callV (M := m_X12_expression) (pc := 103) (ix := 310) (M' := m_X12_joins) (As := [.int (iI 4), .int (iI (σ5.1 39)), .int (iI (σ5.1 40)), .int (iI (σ158.1 39)), .int (iI (σ158.1 40))]) (rest := []) dX12_expression_103 ok_X12_joins im_X12_joins se_X12_joins ml12_310 np_X12_joins rfl rfl (Nat.le_of_ble_eq_true rfl) (Nat.le_of_ble_eq_true rfl) rfl (c_X12_joins (d + 4 * lv + 8) (σ := σ158) (k := 4) (ak := σ5.1 39) (a := σ5.1 40) (bk := σ158.1 39) (c := σ158.1 40) f162 (by omega) (by decide) (by omega) (by have z := gt; unfold GTm at z; omega) (by omega) (by omega) (by omega)) (fun r171 σ172 hp => ?_)
              obtain ⟨rfl, f174, f175, f176, f177, f178, f179⟩ := hp
              show Tm _ _ 106 b σ172 [(1, .int (iI v159)), (4, .int (iI (σ5.1 40))), (3, .int (iI (σ5.1 39))), (2, .int (iI 4)), (0, .ref b)] [] _
              have tr19 := tr18.join (by decide) f174 f176 ⟨Eq.symm (rfl), Eq.symm (rfl)⟩ f179 f177 f178 (by decide) hrd
              have gtf : GTm σ172 := by unfold GTm; rw [f176.2.2.1, f176.2.2.2, f176.1]; exact ⟨Or.inr rfl, fun _ => by omega⟩
              have e28f : σ172.1 28 = σ.1 28 + 1 := by rw [f174.1 28 (by decide)]; exact e28c
              refine tm_aload_n dX12_expression_106 rfl 4 rfl ?_
              refine tm_dup dX12_expression_107 rfl ?_
              refine tm_getS (k := 28) (t := σ158.1 28) dX12_expression_108 (by decide) fl12_304 rfl (rs_F f174 (by decide) (rfl)) ?_
              have g180 := RG.s f162 28
              refine tm_iconst dX12_expression_111 ?_
              refine tm_isub dX12_expression_112 ?_
              refine tm_putS (k := 28) (v := (σ158.1 28) - 1) lay_12 dX12_expression_113 (by decide) fl12_304 rfl (tyX12_ok 28 (by decide)) rfl rfl rfl ?_
              have tr20 := tr19.chg (show Fr [28] [] [] σ172 (sS 28 ((σ158.1 28) - 1) σ172) from (Fr.rfl.S (by decide))) (fun q => u7 ⟨rfl, by rw [show σ172.1 28 = σ158.1 28 from rs_F f174 (by decide) (rfl)]; rfl, rfl, rfl⟩ (MSE.fr (show Fr [28] [] [] σ172 (sS 28 ((σ158.1 28) - 1) σ172) from (Fr.rfl.S (by decide))) (by decide) (by decide) (by decide)))
              refine tm_iload_n dX12_expression_116 rfl 0 rfl ?_
              exact tm_zret (v := v159) rfl (by omega) dX12_expression_117 (⟨_, rfl, by omega, ((((((Fr.rfl.S (by decide)).trans (Fr.sub f8 (by decide) (by decide) (by decide))).trans (Fr.sub f153 (by decide) (by decide) (by decide))).trans (Fr.sub f161 (by decide) (by decide) (by decide))).trans (Fr.sub f174 (by decide) (by decide) (by decide))).S (by decide)), (f175.S (by omega)), tr20.1, fun _ => tr20.exs (by decide) (gtf.fr (show Fr [28] [] [] σ172 (sS 28 ((σ158.1 28) - 1) σ172) from (Fr.rfl.S (by decide))) (by decide)) (by show σ158.1 28 - 1 = σ.1 28; omega), by rw [show v159 = 1 by omega]; exact tr20.prs, by show σ158.1 28 - 1 = σ.1 28; omega⟩)
  · refine tm_aload_n dX12_expression_9 rfl 0 rfl ?_
    refine tm_callV (M := m_X12_expression) (pc := 10) (ix := 261) (M' := m_X12_wrong) (As := []) (rest := []) dX12_expression_10 ok_X12_wrong im_X12_wrong se_X12_wrong ml12_261 np_X12_wrong rfl rfl (Nat.le_of_ble_eq_true rfl) (Nat.le_of_ble_eq_true rfl) rfl (c_X12_wrong (d + 4 * lv + 10) (σ := σ)  hR) (fun r181 σ182 hp => ?_)
    obtain ⟨v183, rfl, f184, f185, f186, f187, f188, f189⟩ := hp
    show Tm _ _ 13 b σ182 [(0, .ref b)] [.int (iI v183)] _
    exact tm_zret (v := v183) rfl (by omega) dX12_expression_13 (⟨_, rfl, by omega, (Fr.rfl.trans (Fr.sub f185 (by decide) (by decide) (by decide))), f186, (tr0.fail (PBF.of tr0.nn f185 (by decide) (by decide) (by decide) (FLT.wr f188 f189)) (fun q => g2f (by omega) (WRG.of f189))).1, fun q => absurd q (by omega), by rw [show v183 = 0 from f184]; exact PRS.no (tr0.fail (PBF.of tr0.nn f185 (by decide) (by decide) (by decide) (FLT.wr f188 f189)) (fun q => g2f (by omega) (WRG.of f189))).2, rs_F f185 (by decide) (rfl)⟩)
set_option maxHeartbeats 4000000 in
set_option maxRecDepth 20000 in
theorem c0_X12_expression (d : Nat) {b : Nat} {σ : MS} (hR : RG σ) (hrd : RDY σ) (hnn : NN σ) (h28 : σ.1 28 = 8) : Tm (d + 8) m_X12_expression 0 b σ [(0, .ref b)] [] (fun ro σ2 => ∃ v : Int, ro = some (.int (iI v)) ∧ ((v = 0 ∨ v = 1)) ∧ (Fr [19, 20, 22, 23, 26, 27, 28, 32, 34, 39, 40] [3, 4, 5, 6, 7, 8, 35] [24, 38] σ σ2) ∧ (RG σ2) ∧ (PBF σ σ2) ∧ (Im v 1 (EXS σ σ2)) ∧ (PRS 2 v σ σ2) ∧ (σ2.1 28 = σ.1 28)) := by
  have tr0 : TRm 2 0 σ [2] σ [] := TRm.start hrd hnn
  refine tm_aload_n dX12_expression_0 rfl 0 rfl ?_
  refine tm_getS (k := 28) (t := σ.1 28) dX12_expression_1 (by decide) fl12_304 rfl (rfl) ?_
  have g1 := RG.s hR 28
  refine tm_bipush dX12_expression_4 (by decide) ?_
  refine tm_icmp_ne (tgt := 14) dX12_expression_6 (by decide) ⟨by omega, by omega⟩ ⟨by decide, by decide⟩ (fun h2 => ?_) (fun h2 => ?_)
  · exfalso; omega
  · refine tm_aload_n dX12_expression_9 rfl 0 rfl ?_
    refine tm_callV (M := m_X12_expression) (pc := 10) (ix := 261) (M' := m_X12_wrong) (As := []) (rest := []) dX12_expression_10 ok_X12_wrong im_X12_wrong se_X12_wrong ml12_261 np_X12_wrong rfl rfl (Nat.le_of_ble_eq_true rfl) (Nat.le_of_ble_eq_true rfl) rfl (c_X12_wrong (d + 6) (σ := σ)  hR) (fun r3 σ4 hp => ?_)
    obtain ⟨v5, rfl, f6, f7, f8, f9, f10, f11⟩ := hp
    show Tm _ _ 13 b σ4 [(0, .ref b)] [.int (iI v5)] _
    exact tm_zret (v := v5) rfl (by omega) dX12_expression_13 (⟨_, rfl, by omega, (Fr.rfl.trans (Fr.sub f7 (by decide) (by decide) (by decide))), f8, (tr0.fail (PBF.of tr0.nn f7 (by decide) (by decide) (by decide) (FLT.wr f10 f11)) (fun q => g2f (by omega) (WRG.of f11))).1, fun q => absurd q (by omega), by rw [show v5 = 0 from f6]; exact PRS.no (tr0.fail (PBF.of tr0.nn f7 (by decide) (by decide) (by decide) (FLT.wr f10 f11)) (fun q => g2f (by omega) (WRG.of f11))).2, rs_F f7 (by decide) (rfl)⟩)
theorem c_exp : ∀ (lv : Nat), ∀ (d : Nat) {b : Nat} {σ : MS} (hR : RG σ) (hrd : RDY σ) (hnn : NN σ) (h28 : σ.1 28 = 8 - (lv : Int)), Tm (d + 4 * lv + 8) m_X12_expression 0 b σ [(0, .ref b)] [] (fun ro σ2 => ∃ v : Int, ro = some (.int (iI v)) ∧ ((v = 0 ∨ v = 1)) ∧ (Fr [19, 20, 22, 23, 26, 27, 28, 32, 34, 39, 40] [3, 4, 5, 6, 7, 8, 35] [24, 38] σ σ2) ∧ (RG σ2) ∧ (PBF σ σ2) ∧ (Im v 1 (EXS σ σ2)) ∧ (PRS 2 v σ σ2) ∧ (σ2.1 28 = σ.1 28)) := by
  intro lv
  induction lv with
  | zero =>
    intro d b σ hR hrd hnn h28
    exact c0_X12_expression d hR hrd hnn (by omega)
  | succ lv ih =>
    intro d b σ hR hrd hnn h28
    rw [show d + 4 * (lv + 1) + 8 = d + 4 * lv + 12 by omega]
    exact cs_X12_expression d (lv := lv) ih hR hrd hnn (by omega)
theorem c_exp8 (d : Nat) {b : Nat} {σ : MS} (hR : RG σ) (hrd : RDY σ) (hnn : NN σ) (h28 : σ.1 28 = 0) : Tm (d + 40) m_X12_expression 0 b σ [(0, .ref b)] [] (fun ro σ2 => ∃ v : Int, ro = some (.int (iI v)) ∧ ((v = 0 ∨ v = 1)) ∧ (Fr [19, 20, 22, 23, 26, 27, 28, 32, 34, 39, 40] [3, 4, 5, 6, 7, 8, 35] [24, 38] σ σ2) ∧ (RG σ2) ∧ (PBF σ σ2) ∧ (Im v 1 (EXS σ σ2)) ∧ (PRS 2 v σ σ2) ∧ (σ2.1 28 = σ.1 28)) := c_exp 8 d hR hrd hnn (by omega)
end
section
def WS (K D O : Int → Int) (R a b l0 l1 : Int) : Prop := (l0 ≤ l1 ∧ a ≤ b) ∧
  (∀ k, a ≤ k → k < b → K k ≠ 14 ∧ K k ≠ 15 ∧ ((K k = 8 ∨ K k = 9 ∨ K k = 13) → l0 ≤ D k ∧ D k < l1)) ∧
  (∀ k, a ≤ k → k < b → (K k = 8 ∨ K k = 9) → ∃ j, a ≤ j ∧ j < b ∧ K j = 13 ∧ D j = D k) ∧
  (∀ p j, a ≤ p → p < b → a ≤ j → j < b → (K p = 8 ∨ K p = 9) → K j = 13 → D j = D p → p < j ∨ (K (j + 1) = 11 ∧ j + 1 < b)) ∧
  (∀ k, a ≤ k → k < b → K k = 10 → (0 ≤ O k ∧ O k < R) ∧ ∃ j, a ≤ j ∧ j < k ∧ K j = 11 ∧ O j = 0 ∧ ∀ i, j < i → i < k → 0 ≤ K i ∧ K i ≤ 5)
section WSS
variable {K D O : Int → Int} {R a b c l0 l1 l2 : Int}
theorem WS.nil (h : l0 ≤ l1) : WS K D O R a a l0 l1 := ⟨⟨h, Int.le_refl _⟩, fun k x y => by omega, fun k x y => by omega, fun p j x y => by omega, fun k x y => by omega⟩
theorem WS.cat (h : WS K D O R a b l0 l1) (g : WS K D O R b c l1 l2) : WS K D O R a c l0 l2 := by
  obtain ⟨h0, h1, h2, h3, h4⟩ := h
  obtain ⟨g0, g1, g2, g3, g4⟩ := g
  refine ⟨⟨by omega, by omega⟩, fun k x y => ?_, fun k x y z => ?_, fun p j x y u w e f i => ?_, fun k x y z => ?_⟩
  · by_cases q : k < b
    · have := h1 k x q
      exact ⟨this.1, this.2.1, fun z => by have := this.2.2 z; omega⟩
    · have := g1 k (by omega) y
      exact ⟨this.1, this.2.1, fun z => by have := this.2.2 z; omega⟩
  · by_cases q : k < b
    · obtain ⟨j, j1, j2, j3⟩ := h2 k x q z
      exact ⟨j, j1, by omega, j3⟩
    · obtain ⟨j, j1, j2, j3⟩ := g2 k (by omega) y z
      exact ⟨j, by omega, j2, j3⟩
  · by_cases q : p < b
    · by_cases q2 : j < b
      · rcases h3 p j x q u q2 e f i with r | r
        · exact Or.inl r
        · exact Or.inr ⟨r.1, by omega⟩
      · exact Or.inl (by omega)
    · by_cases q2 : j < b
      · exfalso
        have r := (h1 j u q2).2.2 (Or.inr (Or.inr f))
        have t := (g1 p (by omega) y).2.2 (by omega)
        omega
      · exact g3 p j (by omega) y (by omega) w e f i
  · by_cases q : k < b
    · exact h4 k x q z
    · obtain ⟨r, j, j1, j2, j3⟩ := g4 k (by omega) y z
      exact ⟨r, j, by omega, j2, j3⟩
theorem WS.plain (hl : l0 ≤ l1) (hab : a ≤ b) (h : ∀ k, a ≤ k → k < b → K k ≠ 8 ∧ K k ≠ 9 ∧ K k ≠ 10 ∧ K k ≠ 13 ∧ K k ≠ 14 ∧ K k ≠ 15) : WS K D O R a b l0 l1 := by
  refine ⟨⟨hl, hab⟩, fun k x y => ⟨(h k x y).2.2.2.2.1, (h k x y).2.2.2.2.2, fun z => ?_⟩, fun k x y z => ?_, fun p j x y u w e f i => ?_, fun k x y z => absurd z (h k x y).2.2.1⟩
  · have := h k x y; omega
  · have := h k x y; omega
  · have := h p x y; omega
theorem WS.call (hl : l0 ≤ l1) (hab : a + 1 < b) (h1 : K a = 11 ∧ O a = 0) (h2 : ∀ k, a < k → k < b - 1 → 0 ≤ K k ∧ K k ≤ 5) (h3 : K (b - 1) = 10 ∧ 0 ≤ O (b - 1) ∧ O (b - 1) < R) : WS K D O R a b l0 l1 := by
  have key : ∀ k, a ≤ k → k < b → k = a ∨ k = b - 1 ∨ (0 ≤ K k ∧ K k ≤ 5) := fun k x y => by
    by_cases e : k = a
    · exact Or.inl e
    · by_cases e2 : k = b - 1
      · exact Or.inr (Or.inl e2)
      · exact Or.inr (Or.inr (h2 k (by omega) (by omega)))
  have nk : ∀ k, a ≤ k → k < b → K k ≠ 8 ∧ K k ≠ 9 ∧ K k ≠ 13 ∧ K k ≠ 14 ∧ K k ≠ 15 := fun k x y => by
    rcases key k x y with e | e | e
    · rw [e]; omega
    · rw [e]; omega
    · omega
  refine ⟨⟨hl, by omega⟩, fun k x y => ⟨(nk k x y).2.2.2.1, (nk k x y).2.2.2.2, fun z => ?_⟩, fun k x y z => ?_, fun p j x y u w e f i => ?_, fun k x y z => ?_⟩
  · have := nk k x y; omega
  · have := nk k x y; omega
  · have := nk p x y; omega
  · have ek : k = b - 1 := by
      rcases key k x y with e | e | e
      · rw [e] at z; omega
      · exact e
      · omega
    rw [ek]
    exact ⟨h3.2, a, by omega, by omega, h1.1, h1.2, fun i x2 y2 => h2 i x2 y2⟩
theorem WS.ifs (g : WS K D O R (a + 1) b (l0 + 1) l1) (h1 : K a = 9 ∧ D a = l0) (h2 : K b = 13 ∧ D b = l0) : WS K D O R a (b + 1) l0 l1 := by
  obtain ⟨g0, g1, g2, g3, g4⟩ := g
  refine ⟨⟨by omega, by omega⟩, fun k x y => ?_, fun k x y z => ?_, fun p j x y u w e f i => ?_, fun k x y z => ?_⟩
  · by_cases e : k = a
    · rw [e]; exact ⟨by omega, by omega, fun _ => by omega⟩
    · by_cases e2 : k = b
      · rw [e2]; exact ⟨by omega, by omega, fun _ => by omega⟩
      · have := g1 k (by omega) (by omega)
        exact ⟨this.1, this.2.1, fun z => by have := this.2.2 z; omega⟩
  · by_cases e : k = a
    · exact ⟨b, by omega, by omega, h2.1, by rw [e, h1.2, h2.2]⟩
    · by_cases e2 : k = b
      · rw [e2] at z; omega
      · obtain ⟨j, j1, j2, j3⟩ := g2 k (by omega) (by omega) z
        exact ⟨j, by omega, by omega, j3⟩
  · by_cases e2 : j = b
    · by_cases e3 : p = b
      · rw [e3] at e; omega
      · exact Or.inl (by omega)
    · by_cases e3 : j = a
      · rw [e3] at f; omega
      · have dj := (g1 j (by omega) (by omega)).2.2 (Or.inr (Or.inr f))
        by_cases e4 : p = a
        · rw [e4, h1.2] at i; omega
        · by_cases e5 : p = b
          · rw [e5] at e; omega
          · rcases g3 p j (by omega) (by omega) (by omega) (by omega) e f i with r | r
            · exact Or.inl r
            · exact Or.inr ⟨r.1, by omega⟩
  · by_cases e : k = a
    · rw [e] at z; omega
    · by_cases e2 : k = b
      · rw [e2] at z; omega
      · obtain ⟨r, j, j1, j2, j3⟩ := g4 k (by omega) (by omega) z
        exact ⟨r, j, by omega, j2, j3⟩
theorem WS.ife (g : WS K D O R (a + 1) b (l0 + 1) l1) (u : WS K D O R (b + 2) c (l1 + 1) l2) (h1 : K a = 9 ∧ D a = l0) (h2 : K b = 8 ∧ D b = l1) (h3 : K (b + 1) = 13 ∧ D (b + 1) = l0) (h4 : K c = 13 ∧ D c = l1) : WS K D O R a (c + 1) l0 l2 := by
  obtain ⟨g0, g1, g2, g3, g4⟩ := g
  obtain ⟨u0, u1, u2, u3, u4⟩ := u
  have cs : ∀ k, a ≤ k → k < c + 1 → k = a ∨ (a + 1 ≤ k ∧ k < b) ∨ k = b ∨ k = b + 1 ∨ (b + 2 ≤ k ∧ k < c) ∨ k = c := fun k x y => by omega
  refine ⟨⟨by omega, by omega⟩, fun k x y => ?_, fun k x y z => ?_, fun p j x y x2 y2 e f i => ?_, fun k x y z => ?_⟩
  · rcases cs k x y with e | e | e | e | e | e
    · rw [e]; exact ⟨by omega, by omega, fun _ => by omega⟩
    · have := g1 k e.1 e.2
      exact ⟨this.1, this.2.1, fun z => by have := this.2.2 z; omega⟩
    · rw [e]; exact ⟨by omega, by omega, fun _ => by omega⟩
    · rw [e]; exact ⟨by omega, by omega, fun _ => by omega⟩
    · have := u1 k e.1 e.2
      exact ⟨this.1, this.2.1, fun z => by have := this.2.2 z; omega⟩
    · rw [e]; exact ⟨by omega, by omega, fun _ => by omega⟩
  · rcases cs k x y with e | e | e | e | e | e
    · exact ⟨b + 1, by omega, by omega, h3.1, by rw [e, h1.2, h3.2]⟩
    · obtain ⟨j, j1, j2, j3⟩ := g2 k e.1 e.2 z
      exact ⟨j, by omega, by omega, j3⟩
    · exact ⟨c, by omega, by omega, h4.1, by rw [e, h2.2, h4.2]⟩
    · rw [e] at z; omega
    · obtain ⟨j, j1, j2, j3⟩ := u2 k e.1 e.2 z
      exact ⟨j, by omega, by omega, j3⟩
    · rw [e] at z; omega
  · have pl : ∀ z, a ≤ z → z < c + 1 → (K z = 8 ∨ K z = 9) → z = a ∨ (a + 1 ≤ z ∧ z < b) ∨ z = b ∨ (b + 2 ≤ z ∧ z < c) := fun z z1 z2 z3 => by
      rcases cs z z1 z2 with q | q | q | q | q | q
      · exact Or.inl q
      · exact Or.inr (Or.inl q)
      · exact Or.inr (Or.inr (Or.inl q))
      · rw [q] at z3; omega
      · exact Or.inr (Or.inr (Or.inr q))
      · rw [q] at z3; omega
    rcases cs j x2 y2 with r | r | r | r | r | r
    · rw [r] at f; omega
    · have dj := (g1 j r.1 r.2).2.2 (Or.inr (Or.inr f))
      rcases pl p x y e with q | q | q | q
      · rw [q] at i; omega
      · rcases g3 p j q.1 q.2 r.1 r.2 e f i with t | t
        · exact Or.inl t
        · exact Or.inr ⟨t.1, by omega⟩
      · rw [q] at i; omega
      · have dp := (u1 p q.1 q.2).2.2 (by omega)
        omega
    · rw [r] at f; omega
    · rcases pl p x y e with q | q | q | q
      · exact Or.inl (by omega)
      · exact Or.inl (by omega)
      · exact Or.inl (by omega)
      · have dp := (u1 p q.1 q.2).2.2 (by omega)
        rw [r, h3.2] at i; omega
    · have dj := (u1 j r.1 r.2).2.2 (Or.inr (Or.inr f))
      rcases pl p x y e with q | q | q | q
      · rw [q] at i; omega
      · have dp := (g1 p q.1 q.2).2.2 (by omega)
        omega
      · rw [q] at i; omega
      · rcases u3 p j q.1 q.2 r.1 r.2 e f i with t | t
        · exact Or.inl t
        · exact Or.inr ⟨t.1, by omega⟩
    · rcases pl p x y e with q | q | q | q <;> exact Or.inl (by omega)
  · rcases cs k x y with e | e | e | e | e | e
    · rw [e] at z; omega
    · obtain ⟨r, j, j1, j2, j3⟩ := g4 k e.1 e.2 z
      exact ⟨r, j, by omega, j2, j3⟩
    · rw [e] at z; omega
    · rw [e] at z; omega
    · obtain ⟨r, j, j1, j2, j3⟩ := u4 k e.1 e.2 z
      exact ⟨r, j, by omega, j2, j3⟩
    · rw [e] at z; omega
theorem WS.whl {m : Int} (g : WS K D O R (m + 1) b (l0 + 2) l1) (hm : a + 2 ≤ m) (h1 : K a = 13 ∧ D a = l0) (h2 : K (a + 1) = 11) (h3 : ∀ k, a + 2 ≤ k → k < m → 0 ≤ K k ∧ K k ≤ 5) (h4 : K m = 9 ∧ D m = l0 + 1) (h5 : K b = 8 ∧ D b = l0) (h6 : K (b + 1) = 13 ∧ D (b + 1) = l0 + 1) : WS K D O R a (b + 2) l0 l1 := by
  obtain ⟨g0, g1, g2, g3, g4⟩ := g
  have cs : ∀ k, a ≤ k → k < b + 2 → k = a ∨ k = a + 1 ∨ (a + 2 ≤ k ∧ k < m) ∨ k = m ∨ (m + 1 ≤ k ∧ k < b) ∨ k = b ∨ k = b + 1 := fun k x y => by omega
  refine ⟨⟨by omega, by omega⟩, fun k x y => ?_, fun k x y z => ?_, fun p j x y x2 y2 e f i => ?_, fun k x y z => ?_⟩
  · rcases cs k x y with e | e | e | e | e | e | e
    · rw [e]; exact ⟨by omega, by omega, fun _ => by omega⟩
    · rw [e]; exact ⟨by omega, by omega, fun _ => by omega⟩
    · have := h3 k e.1 e.2
      exact ⟨by omega, by omega, fun _ => by omega⟩
    · rw [e]; exact ⟨by omega, by omega, fun _ => by omega⟩
    · have := g1 k e.1 e.2
      exact ⟨this.1, this.2.1, fun z => by have := this.2.2 z; omega⟩
    · rw [e]; exact ⟨by omega, by omega, fun _ => by omega⟩
    · rw [e]; exact ⟨by omega, by omega, fun _ => by omega⟩
  · rcases cs k x y with e | e | e | e | e | e | e
    · rw [e] at z; omega
    · rw [e] at z; omega
    · have := h3 k e.1 e.2; omega
    · exact ⟨b + 1, by omega, by omega, h6.1, by rw [e, h4.2, h6.2]⟩
    · obtain ⟨j, j1, j2, j3⟩ := g2 k e.1 e.2 z
      exact ⟨j, by omega, by omega, j3⟩
    · exact ⟨a, by omega, by omega, h1.1, by rw [e, h5.2, h1.2]⟩
    · rw [e] at z; omega
  · have pl : ∀ z, a ≤ z → z < b + 2 → (K z = 8 ∨ K z = 9) → z = m ∨ (m + 1 ≤ z ∧ z < b) ∨ z = b := fun z z1 z2 z3 => by
      rcases cs z z1 z2 with q | q | q | q | q | q | q
      · rw [q] at z3; omega
      · rw [q] at z3; omega
      · have := h3 z q.1 q.2; omega
      · exact Or.inl q
      · exact Or.inr (Or.inl q)
      · exact Or.inr (Or.inr q)
      · rw [q] at z3; omega
    rcases cs j x2 y2 with r | r | r | r | r | r | r
    · exact Or.inr ⟨by rw [r]; exact h2, by omega⟩
    · rw [r] at f; omega
    · have := h3 j r.1 r.2; omega
    · rw [r] at f; omega
    · have dj := (g1 j r.1 r.2).2.2 (Or.inr (Or.inr f))
      rcases pl p x y e with q | q | q
      · rw [q] at i; omega
      · rcases g3 p j q.1 q.2 r.1 r.2 e f i with t | t
        · exact Or.inl t
        · exact Or.inr ⟨t.1, by omega⟩
      · rw [q] at i; omega
    · rw [r] at f; omega
    · rcases pl p x y e with q | q | q <;> exact Or.inl (by omega)
  · rcases cs k x y with e | e | e | e | e | e | e
    · rw [e] at z; omega
    · rw [e] at z; omega
    · have := h3 k e.1 e.2; omega
    · rw [e] at z; omega
    · obtain ⟨r, j, j1, j2, j3⟩ := g4 k e.1 e.2 z
      exact ⟨r, j, by omega, j2, j3⟩
    · rw [e] at z; omega
    · rw [e] at z; omega
theorem WS.ext {K' D' O' : Int → Int} (h : WS K D O R a b l0 l1) (e : ∀ k, a ≤ k → k < b → K' k = K k ∧ D' k = D k ∧ O' k = O k) : WS K' D' O' R a b l0 l1 := by
  obtain ⟨h0, h1, h2, h3, h4⟩ := h
  refine ⟨h0, fun k x y => ?_, fun k x y z => ?_, fun p j x y x2 y2 u f i => ?_, fun k x y z => ?_⟩
  · rw [(e k x y).1, (e k x y).2.1]; exact h1 k x y
  · rw [(e k x y).1] at z
    obtain ⟨j, j1, j2, j3, j4⟩ := h2 k x y z
    exact ⟨j, j1, j2, by rw [(e j j1 j2).1]; exact j3, by rw [(e j j1 j2).2.1, (e k x y).2.1]; exact j4⟩
  · rw [(e p x y).1] at u
    rw [(e j x2 y2).1] at f
    rw [(e j x2 y2).2.1, (e p x y).2.1] at i
    rcases h3 p j x y x2 y2 u f i with r | r
    · exact Or.inl r
    · exact Or.inr ⟨by rw [(e (j + 1) (by omega) r.2).1]; exact r.1, r.2⟩
  · rw [(e k x y).1] at z
    obtain ⟨r, j, j1, j2, j3, j4, j5⟩ := h4 k x y z
    refine ⟨by rw [(e k x y).2.2]; exact r, j, j1, j2, by rw [(e j j1 (by omega)).1]; exact j3, by rw [(e j j1 (by omega)).2.2]; exact j4, fun i x2 y2 => ?_⟩
    rw [(e i (by omega) (by omega)).1]; exact j5 i x2 y2
end WSS
end
section
theorem oki_bind {σ : MS} {x k : Int} (h : ITz σ x 12 k 0) (hk : 0 ≤ k ∧ k < 12) : OKI (fArg x 0 2 k (sA 6 x 2 σ)) 1 x := by
  have e3 : (fArg x 0 2 k (sA 6 x 2 σ)).2.1 3 x = 12 := h.1
  have e4 : (fArg x 0 2 k (sA 6 x 2 σ)).2.1 4 x = k := h.2.1
  have e5 : (fArg x 0 2 k (sA 6 x 2 σ)).2.1 5 x = 0 := h.2.2.1
  have e6 : (fArg x 0 2 k (sA 6 x 2 σ)).2.1 6 x = 2 := ra_o (by decide) (ra_o (by decide) ra_eq)
  have en : nArgs (fArg x 0 2 k (sA 6 x 2 σ)) x = 1 := by
    unfold nArgs
    rw [e3, e6]
    simp
  refine ⟨by omega, by omega, by omega, by omega, by omega, by omega, by omega, fun i i0 i4 => ?_, fun _ _ => fArg_at.1⟩
  by_cases z : i = 0
  · rw [z, fArg_at.1, fArg_at.2, en]
    exact ⟨by omega, fun _ => ⟨by omega, by omega⟩⟩
  · rw [(fArg_ne z).1, (fArg_ne z).2, en]
    have q : (sA 6 x 2 σ).2.1 7 (4 * x + i) = 0 := h.2.2.2.2 i i0 i4
    rw [q]
    exact ⟨by omega, fun w => by omega⟩

theorem dX12_bind_0 : decode cX12_bind 0 = .ok (.aload_n 0, 1) := by decide +kernel
theorem dX12_bind_1 : decode cX12_bind 1 = .ok (.bipush 12, 2) := by decide +kernel
theorem dX12_bind_3 : decode cX12_bind 3 = .ok (.iload_n 1, 1) := by decide +kernel
theorem dX12_bind_4 : decode cX12_bind 4 = .ok (.iconst 0, 1) := by decide +kernel
theorem dX12_bind_5 : decode cX12_bind 5 = .ok (.invokevirtual 294, 3) := by decide +kernel
theorem dX12_bind_8 : decode cX12_bind 8 = .ok (.istore_n 2, 1) := by decide +kernel
theorem dX12_bind_9 : decode cX12_bind 9 = .ok (.aload_n 0, 1) := by decide +kernel
theorem dX12_bind_10 : decode cX12_bind 10 = .ok (.getfield 23, 3) := by decide +kernel
theorem dX12_bind_13 : decode cX12_bind 13 = .ok (.iload_n 2, 1) := by decide +kernel
theorem dX12_bind_14 : decode cX12_bind 14 = .ok (.iconst 2, 1) := by decide +kernel
theorem dX12_bind_15 : decode cX12_bind 15 = .ok (.iastore, 1) := by decide +kernel
theorem dX12_bind_16 : decode cX12_bind 16 = .ok (.aload_n 0, 1) := by decide +kernel
theorem dX12_bind_17 : decode cX12_bind 17 = .ok (.iload_n 2, 1) := by decide +kernel
theorem dX12_bind_18 : decode cX12_bind 18 = .ok (.iconst 0, 1) := by decide +kernel
theorem dX12_bind_19 : decode cX12_bind 19 = .ok (.iconst 2, 1) := by decide +kernel
theorem dX12_bind_20 : decode cX12_bind 20 = .ok (.iload_n 1, 1) := by decide +kernel
theorem dX12_bind_21 : decode cX12_bind 21 = .ok (.invokevirtual 298, 3) := by decide +kernel
theorem dX12_bind_24 : decode cX12_bind 24 = .ok (.return_, 1) := by decide +kernel
set_option maxHeartbeats 4000000 in
set_option maxRecDepth 20000 in
theorem c_X12_bind (d : Nat) {b : Nat} {σ : MS} {k : Int} (hR : RG σ) (hph : (0 ≤ σ.1 30 ∧ σ.1 30 ≤ 2000) ∧ (0 ≤ σ.1 34 ∧ σ.1 34 ≤ 10000)) (hk12 : 0 ≤ k ∧ k < 12) : Tm (d + 3) m_X12_bind 0 b σ [(0, .ref b), (1, .int (iI k))] [] (fun ro σ2 => ro = none ∧ (Fr [34] [3, 4, 5, 6, 7, 8] [] σ σ2) ∧ (RG σ2) ∧ (σ2.1 34 = σ.1 34 + 1) ∧ (OFF (PXx σ) σ σ2) ∧ (OKI σ2 1 (PXx σ)) ∧ (σ2.2.1 3 (PXx σ) = 12) ∧ (PIT σ σ2 (bndI k))) := by
  refine tm_aload_n dX12_bind_0 rfl 0 rfl ?_
  refine tm_bipush dX12_bind_1 (by decide) ?_
  refine tm_iload_n dX12_bind_3 rfl 1 rfl ?_
  refine tm_iconst dX12_bind_4 ?_
  refine tm_callV (M := m_X12_bind) (pc := 5) (ix := 294) (M' := m_X12_put) (As := [.int (iI 12), .int (iI k), .int (iI 0)]) (rest := []) dX12_bind_5 ok_X12_put im_X12_put se_X12_put ml12_294 np_X12_put rfl rfl (Nat.le_of_ble_eq_true rfl) (Nat.le_of_ble_eq_true rfl) rfl (c_X12_put (d) (σ := σ) (k := 12) (e := k) (o := 0) hR hph (by omega) (by omega) (by omega)) (fun r1 σ2 hp => ?_)
  obtain ⟨v3, rfl, f4, f5, f6, f7, f8, f9, f10, f11⟩ := hp
  show Tm _ _ 8 b σ2 [(0, .ref b), (1, .int (iI k))] [.int (iI v3)] _
  have jv := f6
  have jn := f7
  have ji := f8
  have jo := f9
  have jr := f10
  have jz := f11
  refine tm_istore_n (L' := [(2, .int (iI v3)), (0, .ref b), (1, .int (iI k))]) dX12_bind_8 rfl (by decide) rfl ?_
  refine tm_aload_n dX12_bind_9 rfl 1 rfl ?_
  refine tm_get (k := 6) (v := .ref (b + 1 + 4)) lay_12 dX12_bind_10 (by decide) fl12_23 rfl ?_
  refine tm_iload_n dX12_bind_13 rfl 0 rfl ?_
  refine tm_iconst dX12_bind_14 ?_
  refine tm_iast (z := v3) (v := 2) dX12_bind_15 (show mT[4]? = some (6, 0, 2860) from rfl) (by omega) (by omega) (by decide) ?_
  refine tm_aload_n dX12_bind_16 rfl 1 rfl ?_
  refine tm_iload_n dX12_bind_17 rfl 0 rfl ?_
  refine tm_iconst dX12_bind_18 ?_
  refine tm_iconst dX12_bind_19 ?_
  refine tm_iload_n dX12_bind_20 rfl 2 rfl ?_
  refine tm_callV (M := m_X12_bind) (pc := 21) (ix := 298) (M' := m_X12_setArg) (As := [.int (iI v3), .int (iI 0), .int (iI 2), .int (iI k)]) (rest := []) dX12_bind_21 ok_X12_setArg im_X12_setArg se_X12_setArg ml12_298 np_X12_setArg rfl rfl (Nat.le_of_ble_eq_true rfl) (Nat.le_of_ble_eq_true rfl) rfl (c_X12_setArg (d + 1) (σ := (sA 6 (v3) (2) σ2)) (x := v3) (i := 0) (k := 2) (w := k) (by omega)) (fun r12 σ13 hp => ?_)
  obtain ⟨rfl, f15⟩ := hp
  subst f15
  show Tm _ _ 24 b (fArg (v3) (0) (2) (k) (sA 6 (v3) (2) σ2)) [(2, .int (iI v3)), (0, .ref b), (1, .int (iI k))] [] _
  exact tm_vret rfl dX12_bind_24 (⟨rfl, (((Fr.rfl.trans (Fr.sub f4 (by decide) (by decide) (by decide))).A (by decide)).trans (Fr.sub fArg_fr (by decide) (by decide) (by decide))), (((f5.A (by omega))).arg (by omega) (by omega)), jn, by rw [← jv]; exact (jo.trans (OFF.A (by decide))).trans (OFF.arg (by decide) (by decide)), by rw [← jv]; exact oki_bind ji hk12, by rw [← jv]; exact ji.1, PIT.at jv jn ((jo.trans (OFF.A (by decide))).trans (OFF.arg (by decide) (by decide))) (ri_bind jz)⟩)
end
section
def RBY (σ : MS) (w : Int64) (v : Int) : Prop := (0 ≤ v → σ.2.2 44 v = w ∧ ∀ j, 0 ≤ j → j < v → σ.2.2 44 j ≠ w) ∧ (v = -1 → ∀ j, 0 ≤ j → j < σ.1 43 → σ.2.2 44 j ≠ w)
theorem RBY.one {σ : MS} {w : Int64} {u v : Int} (h : RBY σ w u) (g : RBY σ w v) (hu : 0 ≤ u) (hv : 0 ≤ v) : u = v := by
  by_cases a : u < v
  · exact absurd (h.1 hu).1 ((g.1 hv).2 u hu a)
  · by_cases b : v < u
    · exact absurd (g.1 hv).1 ((h.1 hu).2 v hv b)
    · omega

set_option maxHeartbeats 4000000 in
set_option maxRecDepth 20000 in
theorem l_routineB2 (d : Nat) {b : Nat} {σ : MS} {w : Int64} {post : Option Value → MS → Prop} (hR : RG σ) (ht : 0 ≤ σ.1 43 ∧ σ.1 43 ≤ 260) (hx_29 : ∀ (q : Int) , (∀ j, 0 ≤ j → j < σ.1 43 → σ.2.2 44 j ≠ w) → Tm (d + 1) m_X12_routineBy 29 b σ [(3, .int (iI q)), (0, .ref b), (1, .long (w))] [] post) (hr1 : ∀ q, 0 ≤ q → q < σ.1 43 → σ.2.2 44 q = w → (∀ j, 0 ≤ j → j < q → σ.2.2 44 j ≠ w) → post (some (.int (iI q))) σ) : ∀ (n : Nat) (q : Int) , (0 ≤ q ∧ q ≤ 260) → (∀ j, 0 ≤ j → j < q → σ.2.2 44 j ≠ w) → (260 - q).toNat = n → Tm (d + 1) m_X12_routineBy 2 b σ [(3, .int (iI q)), (0, .ref b), (1, .long (w))] [] post := by
  intro n
  induction n using Nat.strongRecOn with
  | _ n ih =>
    intro q h0 hb hm
    refine tm_iload_n dX12_routineBy_2 rfl 0 rfl ?_
    refine tm_aload_n dX12_routineBy_3 rfl 1 rfl ?_
    refine tm_getS (k := 43) (t := σ.1 43) dX12_routineBy_4 (by decide) fl12_376 rfl (rfl) ?_
    have g1 := RG.s hR 43
    refine tm_icmp_ge (tgt := 29) dX12_routineBy_7 (by decide) ⟨by omega, by omega⟩ ⟨by omega, by omega⟩ (fun h2 => ?_) (fun h2 => ?_)
    · exact tm_sub [0, 1, 2] rfl (hx_29 (q) (fun j a c => hb j a (by omega)))
    · refine tm_aload_n dX12_routineBy_10 rfl 1 rfl ?_
      refine tm_get (k := 44) (v := .ref (b + 1 + 22)) lay_12 dX12_routineBy_11 (by decide) fl12_82 rfl ?_
      refine tm_iload_n dX12_routineBy_14 rfl 0 rfl ?_
      refine tm_lald (z := q) (v := σ.2.2 44 q) dX12_routineBy_15 (show mT[22]? = some (44, 3, 260) from rfl) (by omega) (by omega) (by decide) (rfl) ?_
      refine tm_lload_n dX12_routineBy_16 rfl 2 rfl ?_
      refine tm_lcmp dX12_routineBy_17 ?_
      have g3 := lcI_b (σ.2.2 44 q) (w)
      refine tm_if_ne (tgt := 23) dX12_routineBy_18 (by decide) ⟨by omega, by omega⟩ (fun h4 => ?_) (fun h4 => ?_)
      · have h4e : ¬ (σ.2.2 44 q) = (w) := fun q => h4 (lcI_0.mpr q)
        refine tm_iinc (q0 := 0) (L' := [(3, .int (iI (q + 1))), (0, .ref b), (1, .long (w))]) dX12_routineBy_23 rfl (by decide) rfl ?_
        refine tm_goto (tgt := 2) dX12_routineBy_26 (by decide) ?_
        exact tm_sub [0, 1, 2] rfl (ih _ (by omega) (q + 1) (by omega) (fun j a c => (Classical.em (j = q)).elim (fun z => by rw [z]; assumption) (fun z => hb j a (by omega))) rfl)
      · have h4e := lcI_0.mp h4
        refine tm_iload_n dX12_routineBy_21 rfl 0 rfl ?_
        exact tm_iret rfl dX12_routineBy_22 (hr1 q (by omega) (by omega) (by assumption) hb)
set_option maxHeartbeats 4000000 in
set_option maxRecDepth 20000 in
theorem c2_X12_routineBy (d : Nat) {b : Nat} {σ : MS} {w : Int64} (hR : RG σ) (ht : 0 ≤ σ.1 43 ∧ σ.1 43 ≤ 260) : Tm (d + 1) m_X12_routineBy 0 b σ [(0, .ref b), (1, .long (w))] [] (fun ro σ2 => ∃ v : Int, ro = some (.int (iI v)) ∧ σ = σ2 ∧ (-1 ≤ v ∧ v < σ.1 43) ∧ (RBY σ w v)) := by
  refine tm_iconst dX12_routineBy_0 ?_
  refine tm_istore_n (L' := [(3, .int (iI 0)), (0, .ref b), (1, .long (w))]) dX12_routineBy_1 rfl (by decide) rfl ?_
  refine tm_sub [0, 1, 2] rfl (l_routineB2 (d) (σ := σ) (w := w) hR ht (fun q5 f4 => ?_) (fun q a c e f => ⟨_, rfl, rfl, by omega, fun _ => ⟨e, f⟩, fun z => by omega⟩) _ (0) (by omega) (fun j a c => by omega) rfl)
  show Tm _ _ 29 b σ [(3, .int (iI q5)), (0, .ref b), (1, .long (w))] [] _
  refine tm_iconst dX12_routineBy_29 ?_
  exact tm_iret rfl dX12_routineBy_30 (⟨_, rfl, rfl, by omega, fun z => absurd z (by decide), fun _ => f4⟩)
end
section
theorem RCm.mid {s : Int → Int} {a b c : PCf} (h : RCm s a b) (g : RCm s a c) (hc : stp s c = c) : RCm s b c := by
  obtain ⟨n, hn⟩ := h
  obtain ⟨m, hm⟩ := g
  by_cases z : n ≤ m
  · refine ⟨m - n, ?_⟩
    rw [← hn, ← itr_add, show n + (m - n) = m by omega]
    exact hm
  · refine ⟨0, ?_⟩
    have e : itr s n a = itr s (n - m) c := by rw [← hm, ← itr_add]; congr 1; omega
    rw [itr_fix hc] at e
    exact hn.symm.trans e
theorem stp_log {s : Int → Int} {a : PCf} (h : stp s a ≠ pF) : ∃ l, (stp s a).2.2.2.2 = a.2.2.2.2 ++ l := by
  obtain ⟨K, t, x, q, ρ⟩ := a
  cases K with
  | nil => exact ⟨[], (List.append_nil _).symm⟩
  | cons k K =>
    cases e : stk s k t x q with
    | none =>
      exfalso
      apply h
      show (match stk s k t x q with
        | none => pF
        | some r => (r.1 ++ K, r.2.1, r.2.2.1, r.2.2.2.1, ρ ++ r.2.2.2.2)) = _
      rw [e]
    | some r =>
      refine ⟨r.2.2.2.2, ?_⟩
      show (match stk s k t x q with
        | none => pF
        | some r => (r.1 ++ K, r.2.1, r.2.2.1, r.2.2.2.1, ρ ++ r.2.2.2.2)).2.2.2.2 = _
      rw [e]
theorem itr_pF (s : Int → Int) (n : Nat) : itr s n pF = pF := itr_fix (stp_pF s) n
theorem itr_log {s : Int → Int} (n : Nat) (a : PCf) (h : itr s n a ≠ pF) : ∃ l, (itr s n a).2.2.2.2 = a.2.2.2.2 ++ l := by
  induction n generalizing a with
  | zero => exact ⟨[], (List.append_nil _).symm⟩
  | succ n ih =>
    have h2 : itr s n (stp s a) ≠ pF := h
    obtain ⟨l, hl⟩ := ih (stp s a) h2
    have h3 : stp s a ≠ pF := fun e => h2 (by rw [e]; exact itr_pF s n)
    obtain ⟨m, hm⟩ := stp_log h3
    refine ⟨m ++ l, ?_⟩
    show (itr s n (stp s a)).2.2.2.2 = _
    rw [hl, hm, List.append_assoc]
theorem RCm.log {s : Int → Int} {a b : PCf} (h : RCm s a b) (hb : b ≠ pF) : ∃ l, b.2.2.2.2 = a.2.2.2.2 ++ l := by
  obtain ⟨n, hn⟩ := h
  rw [← hn] at hb ⊢
  exact itr_log n a hb
def nR : List EV → Int
  | [] => 0
  | e :: l => (if e.1 = 0 then 1 else 0) + nR l
theorem nR_app (a b : List EV) : nR (a ++ b) = nR a + nR b := by
  induction a with
  | nil => simp [nR]
  | cons e l ih => simp only [List.cons_append, nR, ih]; omega
theorem nR_0 (a : List EV) : 0 ≤ nR a := by
  induction a with
  | nil => exact Int.le_refl _
  | cons e l ih => simp only [nR]; split <;> omega
end
section
def E2 (σ : MS) (e : EV) : Prop := (e.1 = 0 → e.2.1 ≤ 120) ∧ (e.1 = 1 → ∃ v, (0 ≤ v ∧ v < σ.1 43) ∧ RBY σ e.2.2 v ∧ σ.2.1 45 v = e.2.1)
def E3 (σ : MS) (e : EV) : Prop := (e.1 = 0 → e.2.1 ≤ 120) ∧ (e.1 = 1 → ∃ v, (0 ≤ v ∧ v < σ.1 43) ∧ v < 6 ∧ RBY σ e.2.2 v ∧ σ.2.1 11 v = e.2.1)
def TBm (σ τ : MS) : Prop := τ.1 43 = σ.1 43 ∧ τ.2.1 11 = σ.2.1 11 ∧ τ.2.1 45 = σ.2.1 45 ∧ τ.2.2 44 = σ.2.2 44
theorem TBm.of {ss ks js : List Nat} {σ τ : MS} (f : Fr ss ks js σ τ) (h1 : 43 ∉ ss) (h2 : 11 ∉ ks) (h3 : 45 ∉ ks) (h4 : 44 ∉ js) : TBm σ τ := ⟨f.1 43 h1, f.2.1 11 h2, f.2.1 45 h3, f.2.2 44 h4⟩
theorem TBm.trans {σ τ υ : MS} (h : TBm σ τ) (g : TBm τ υ) : TBm σ υ := ⟨g.1.trans h.1, g.2.1.trans h.2.1, g.2.2.1.trans h.2.2.1, g.2.2.2.trans h.2.2.2⟩
theorem RBY.tb {σ τ : MS} {w : Int64} {v : Int} (h : RBY σ w v) (t : TBm σ τ) : RBY τ w v := by unfold RBY; rw [t.1, t.2.2.2]; exact h
theorem RBY.bt {σ τ : MS} {w : Int64} {v : Int} (h : RBY τ w v) (t : TBm σ τ) : RBY σ w v := by unfold RBY at h; rw [t.1, t.2.2.2] at h; exact h
theorem E2.bt {σ τ : MS} {e : EV} (h : E2 τ e) (t : TBm σ τ) : E2 σ e := ⟨h.1, fun z => by
  obtain ⟨v, a, b, c⟩ := h.2 z
  exact ⟨v, by rw [← t.1]; exact a, b.bt t, by rw [← t.2.2.1]; exact c⟩⟩
theorem E3.tb {σ τ : MS} {e : EV} (h : E3 σ e) (t : TBm σ τ) : E3 τ e := ⟨h.1, fun z => by
  obtain ⟨v, a, b, c, d⟩ := h.2 z
  exact ⟨v, by rw [t.1]; exact a, b, c.tb t, by rw [t.2.1]; exact d⟩⟩
def P2F (σ τ : MS) (lg : List EV) : Prop := σ.1 25 = 2 → τ.1 26 = 0 → ∀ e ∈ lg, E2 σ e
theorem P2F.nil {σ τ : MS} : P2F σ τ [] := fun _ _ e h => absurd h (List.not_mem_nil)
theorem P2F.cat {σ τ υ : MS} {l1 l2 : List EV} (h : P2F σ τ l1) (g : P2F τ υ l2) (p : PBF σ τ) (q : PBF τ υ) (t : TBm σ τ) : P2F σ υ (l1 ++ l2) := fun a b e he => by
  have b2 : τ.1 26 = 0 := by
    by_cases z : τ.1 26 = 0
    · exact z
    · exact absurd b (q.2.2.2.2.1.1 z)
  rcases List.mem_append.mp he with x | x
  · exact h a b2 e x
  · exact (g (by rw [p.2.2.2.2.2.2.1]; exact a) b e x).bt t
def SGF (σ τ : MS) (lg : List EV) : Prop := σ.1 25 = 3 → σ.1 30 < 6 → τ.1 34 ≤ 180 → (∀ e ∈ lg, E3 σ e) →
  (∀ k, σ.1 34 ≤ k → k < τ.1 34 → OKI τ 1 (220 * σ.1 30 + k)) ∧ WS (iK τ (σ.1 30)) (iD τ (σ.1 30)) (iO τ (σ.1 30)) (σ.1 43) (σ.1 34) (τ.1 34) (σ.1 33) (τ.1 33)
theorem SGF.cat {σ τ υ : MS} {l1 l2 : List EV} (h : SGF σ τ l1) (g : SGF τ υ l2) (p : PBF σ τ) (q : PBF τ υ) (t : TBm σ τ) (t2 : TBm τ υ) (h30 : 0 ≤ σ.1 30 ∧ 0 ≤ σ.1 34) : SGF σ υ (l1 ++ l2) := fun a b c d => by
  obtain ⟨-, -, -, -, -, p6, p7, p8⟩ := p
  obtain ⟨q1, -, -, -, -, q6, -, -⟩ := q
  have H := h a b (by omega) (fun e x => d e (List.mem_append_left _ x))
  have G := g (by omega) (by omega) c (fun e x => (d e (List.mem_append_right _ x)).tb t)
  rw [p8, t.1] at G
  have ie : ∀ k, σ.1 34 ≤ k → k < τ.1 34 → IEQ τ (220 * σ.1 30 + k) υ (220 * σ.1 30 + k) := fun k x y => q1 _ (by omega) (by omega)
  refine ⟨fun k x y => ?_, (H.2.ext (fun k x y => ?_)).cat G.2⟩
  · by_cases z : k < τ.1 34
    · exact (ie k x z).oki t2.2.1 (H.1 k x z)
    · exact G.1 k (by omega) y
  · have := ie k x y
    exact ⟨this.1, this.2.1, this.2.2.1⟩
theorem SGF.nil {σ τ : MS} {lg : List EV} (h34 : τ.1 34 = σ.1 34) (h33 : σ.1 33 ≤ τ.1 33) : SGF σ τ lg := fun _ _ _ _ => ⟨fun k x y => by omega, by rw [h34]; exact WS.nil h33⟩
theorem SGF.ac {σ τ : MS} {lg : List EV} (h : AC σ τ) (p : PBF σ τ) (h33 : σ.1 33 ≤ τ.1 33) : SGF σ τ lg := fun a b c _ => by
  have p6 := p.2.2.2.2.2.1
  have key : ∀ k, σ.1 34 ≤ k → k < τ.1 34 → ACI τ (12 + τ.1 34) (220 * σ.1 30 + k) := fun k x y => h a b k x y (by omega)
  refine ⟨fun k x y => ?_, WS.plain h33 p6 (fun k x y => ?_)⟩
  · obtain ⟨c1, c2, c3, c4⟩ := key k x y
    have en : nArgs τ (220 * σ.1 30 + k) = 2 := by
      unfold nArgs
      rw [if_neg (by omega), if_neg (by omega), if_pos c1]
    refine ⟨by omega, by omega, by omega, by omega, by omega, by omega, by omega, fun i i0 i4 => ?_, by omega⟩
    have q := c4 i i0 i4
    refine ⟨q.1, fun z => ?_⟩
    have := q.2 z
    rw [en]
    omega
  · have := (key k x y).1
    simp only [iK]
    omega
end
section
def TS (k0 : Nat) (n : Int) (σ : MS) (ks : List Nat) (τ : MS) (q : Int → QR) (lg : List EV) (P : List ME) : Prop := PBF σ τ ∧ PBC n σ τ ∧ RDY τ ∧ TBm σ τ ∧ P2F σ τ lg ∧ ∀ c : Int, GOM [k0] σ (qq c) [] ks τ (q c) P lg
section TSS
variable {k0 k : Nat} {n m : Int} {σ τ υ : MS} {rest new kk : List Nat} {q q2 : Int → QR} {lg l2 : List EV} {X Pb Pa : List ME} {e : ME}
theorem TS.start (hrd : RDY σ) (hnn : NN σ) : TS k0 0 σ [k0] σ qq [] [] := ⟨PBF.nop hnn (Fr.rfl : Fr [] [] [] σ σ) (by decide) (by decide) (by decide), PBC.nop (Fr.rfl : Fr [] [] [] σ σ) (by decide), hrd, ⟨rfl, rfl, rfl, rfl⟩, P2F.nil, fun _ => GOM.nop rfl rfl MSE.rfl⟩
theorem TS.nn (t : TS k0 n σ kk τ q lg X) : NN τ := t.1.2.2.1
theorem TS.goX (t : TS k0 n σ (k :: rest) τ q lg (Pa ++ X)) (pb : PBF τ υ) (pc : PBC m τ υ) (hr : RDY υ) (tb : TBm τ υ) (p2 : P2F τ υ l2) (g : ∀ {c : Int}, GOM [k] τ (q c) Pa new υ (q2 c) Pb l2) : TS k0 (n + m) σ (new ++ rest) υ q2 (lg ++ l2) (Pb ++ X) := by
  obtain ⟨t1, t2, t3, t4, t5, t6⟩ := t
  exact ⟨t1.trans pb, t2.trans pc, hr, t4.trans tb, t5.cat p2 t1 pb t4, fun c => (t6 c).trans ((g (c := c)).more rest X)⟩
theorem TS.go (t : TS k0 n σ (k :: rest) τ q lg X) (pb : PBF τ υ) (pc : PBC m τ υ) (hr : RDY υ) (tb : TBm τ υ) (p2 : P2F τ υ l2) (g : ∀ {c : Int}, GOM [k] τ (q c) [] new υ (q2 c) Pb l2) : TS k0 (n + m) σ (new ++ rest) υ q2 (lg ++ l2) (Pb ++ X) := TS.goX (Pa := []) t pb pc hr tb p2 g
theorem TS.goE (t : TS k0 n σ (k :: rest) τ q lg (e :: X)) (pb : PBF τ υ) (pc : PBC m τ υ) (hr : RDY υ) (tb : TBm τ υ) (p2 : P2F τ υ l2) (g : ∀ {c : Int}, GOM [k] τ (q c) [e] new υ (q2 c) Pb l2) : TS k0 (n + m) σ (new ++ rest) υ q2 (lg ++ l2) (Pb ++ X) := TS.goX (Pa := [e]) t pb pc hr tb p2 g
theorem TS.go0 (t : TS k0 n σ (k :: rest) τ q lg X) (pb : PBF τ υ) (pc : PBC m τ υ) (hr : RDY υ) (tb : TBm τ υ) (g : ∀ {c : Int}, GOM [k] τ (q c) [] new υ (q2 c) Pb []) : TS k0 (n + m) σ (new ++ rest) υ q2 lg (Pb ++ X) := by
  have x := t.go pb pc hr tb P2F.nil g
  rw [List.append_nil] at x
  exact x
theorem TS.go0E (t : TS k0 n σ (k :: rest) τ q lg (e :: X)) (pb : PBF τ υ) (pc : PBC m τ υ) (hr : RDY υ) (tb : TBm τ υ) (g : ∀ {c : Int}, GOM [k] τ (q c) [e] new υ (q2 c) Pb []) : TS k0 (n + m) σ (new ++ rest) υ q2 lg (Pb ++ X) := by
  have x := t.goE pb pc hr tb P2F.nil g
  rw [List.append_nil] at x
  exact x
theorem TS.nxt (t : TS k0 n σ (k :: rest) τ q lg X) (g : ∀ {c : Int}, GOM [k] τ (q c) [] new τ (q2 c) Pb []) : TS k0 n σ (new ++ rest) τ q2 lg (Pb ++ X) := by
  have x := t.go0 (PBF.nop t.nn (Fr.rfl : Fr [] [] [] τ τ) (by decide) (by decide) (by decide)) (PBC.nop (Fr.rfl : Fr [] [] [] τ τ) (by decide)) t.2.2.1 ⟨rfl, rfl, rfl, rfl⟩ g
  rw [Int.add_zero] at x
  exact x
theorem TS.nxtE (t : TS k0 n σ (k :: rest) τ q lg (e :: X)) (g : ∀ {c : Int}, GOM [k] τ (q c) [e] new τ (q2 c) Pb []) : TS k0 n σ (new ++ rest) τ q2 lg (Pb ++ X) := by
  have x := t.go0E (PBF.nop t.nn (Fr.rfl : Fr [] [] [] τ τ) (by decide) (by decide) (by decide)) (PBC.nop (Fr.rfl : Fr [] [] [] τ τ) (by decide)) t.2.2.1 ⟨rfl, rfl, rfl, rfl⟩ g
  rw [Int.add_zero] at x
  exact x
theorem TS.adv (t : TS k0 n σ (k :: rest) τ q lg X) (f : Fr [19, 20, 22, 23] [] [24] τ υ) (tok : TOK υ) (p : τ.1 20 ≤ υ.1 19) (hs : τ.1 22 ≠ 0) (g : ∀ {c : Int}, GOM [k] τ (q c) [] new υ (q2 c) Pb []) : TS k0 (n + 2) σ (new ++ rest) υ q2 lg (Pb ++ X) := by
  have pb : PBF τ υ := PBF.nop t.nn f (by decide) (by decide) (by decide)
  have pc : PBC 2 τ υ := PBC.adv f (t.2.2.1.1.2.1 hs) p
  exact t.go0 pb pc (RDY.of t.2.2.1 ⟨pb.2.2.2.2.2.2.1, pb.2.2.2.2.2.2.2⟩ tok pc (by decide)) (TBm.of f (by decide) (by decide) (by decide) (by decide)) g
theorem TS.advE (t : TS k0 n σ (k :: rest) τ q lg (e :: X)) (f : Fr [19, 20, 22, 23] [] [24] τ υ) (tok : TOK υ) (p : τ.1 20 ≤ υ.1 19) (hs : τ.1 22 ≠ 0) (g : ∀ {c : Int}, GOM [k] τ (q c) [e] new υ (q2 c) Pb []) : TS k0 (n + 2) σ (new ++ rest) υ q2 lg (Pb ++ X) := by
  have pb : PBF τ υ := PBF.nop t.nn f (by decide) (by decide) (by decide)
  have pc : PBC 2 τ υ := PBC.adv f (t.2.2.1.1.2.1 hs) p
  exact t.go0E pb pc (RDY.of t.2.2.1 ⟨pb.2.2.2.2.2.2.1, pb.2.2.2.2.2.2.2⟩ tok pc (by decide)) (TBm.of f (by decide) (by decide) (by decide) (by decide)) g
theorem TS.needy (t : TS k0 n σ (k :: rest) τ q lg X) (f : Fr [19, 20, 22, 23, 26, 27] [] [24] τ υ) (tok : TOK υ) (p : τ.1 20 ≤ υ.1 19) (h26 : υ.1 26 = τ.1 26) (hs : τ.1 22 ≠ 0) (g : ∀ {c : Int}, GOM [k] τ (q c) [] new υ (q2 c) Pb []) : TS k0 (n + 2) σ (new ++ rest) υ q2 lg (Pb ++ X) := by
  have pb : PBF τ υ := PBF.of t.nn f (by decide) (by decide) (by decide) (FLT.eq h26)
  have pc : PBC 2 τ υ := by
    have h0 := t.2.2.1.1.2.1 hs
    unfold PBC
    rw [f.1 34 (by decide), f.1 32 (by decide), f.1 31 (by decide), f.1 33 (by decide)]
    omega
  exact t.go0 pb pc (RDY.of t.2.2.1 ⟨pb.2.2.2.2.2.2.1, pb.2.2.2.2.2.2.2⟩ tok pc (by decide)) (TBm.of f (by decide) (by decide) (by decide) (by decide)) g
theorem TS.exp (t : TS k0 n σ (2 :: rest) τ q lg X) (f : Fr [19, 20, 22, 23, 26, 27, 28, 32, 34, 39, 40] [3, 4, 5, 6, 7, 8, 35] [24, 38] τ υ) (pb : PBF τ υ) (e : EXS τ υ) (g : ∀ q, GOM [2] τ q [] [] υ q [] []) : TS k0 (n + 2) σ rest υ q lg X := t.go0 pb e.2.1 e.1 (TBm.of f (by decide) (by decide) (by decide) (by decide)) (g _)
theorem TS.keep {ss ks js : List Nat} (t : TS k0 n σ kk τ q lg X) (f : Fr ss ks js τ υ) (hs : ∀ j ∈ [19, 20, 21, 22, 23, 25, 26, 27, 28, 29, 30, 31, 32, 33, 34, 39, 40, 43], j ∉ ss) (hk : ∀ j ∈ [1, 3, 4, 5, 6, 7, 8, 11, 35, 36, 37, 45], j ∉ ks) (hj : 24 ∉ js) (hj4 : ∀ j ∈ [38, 44], j ∉ js) (pb : PBF τ υ) : TS k0 n σ kk υ q lg X := by
  have e := fun j h => f.1 j (hs j h)
  have pc : PBC 0 τ υ := PBC.nop f (fun j q => hs j (by revert j q; decide))
  have tb : TBm τ υ := TBm.of f (hs 43 (by decide)) (hk 11 (by decide)) (hk 45 (by decide)) (hj4 44 (by decide))
  obtain ⟨t1, t2, t3, t4, t5, t6⟩ := t
  refine ⟨t1.trans pb, by have := t2.trans pc; rw [Int.add_zero] at this; exact this, RDY.of t3 ⟨pb.2.2.2.2.2.2.1, pb.2.2.2.2.2.2.2⟩ ?_ pc (by decide), t4.trans tb, by have := t5.cat (P2F.nil (τ := υ)) t1 pb t4; rw [List.append_nil] at this; exact this, fun c => (t6 c).last (vw_fr f (fun j q => hs j (by revert j q; decide)) (hk 1 (by decide)) hj) (srt_fr f (fun j q => hs j (by revert j q; decide)) (fun j q => hk j (by revert j q; decide)) hj4) (MSE.fr f (fun j q => hs j (by revert j q; decide)) (fun j q => hk j (by revert j q; decide)) hj4)⟩
  unfold TOK
  rw [e 19 (by decide), e 20 (by decide), e 21 (by decide), e 22 (by decide), e 23 (by decide)]
  exact t3.1
theorem TS.fail (t : TS k0 n σ (k :: rest) τ q lg X) (pb : PBF τ υ) (g : ∀ {c : Int}, GOF [k] τ (q c) υ) : PBF σ υ ∧ ∀ c : Int, GOF [k0] σ (qq c) υ := ⟨t.1.trans pb, fun c => (t.2.2.2.2.2 c).fail ((g (c := c)).more rest)⟩
end TSS
end
section
section TSP
variable {k0 k : Nat} {n m : Int} {σ τ υ : MS} {rest : List Nat} {q : Int → QR} {lg : List EV} {X Pb : List ME} {e9 : ME}
theorem TS.puts (t : TS k0 n σ (k :: rest) τ q lg (e9 :: X)) (f : Fr [33, 34] [3, 4, 5, 6, 7, 8] [] τ υ) (pb : PBF τ υ) (e : υ.1 34 = τ.1 34 + m) (e33 : τ.1 33 ≤ υ.1 33 ∧ υ.1 33 ≤ τ.1 33 + m) (hn : m ≤ n) (hrd : RDY σ) (g : ∀ {c : Int}, GOM [k] τ (q c) [e9] [] υ (q c) Pb []) : TS k0 (n - m) σ rest υ q lg (Pb ++ X) := by
  have pc : PBC (-m) τ υ := by
    unfold PBC
    rw [f.1 19 (by decide), f.1 31 (by decide), f.1 32 (by decide), e]
    omega
  have pc2 : PBC (n - m) σ υ := t.2.1.trans pc
  have p2 := t.1.trans pb
  have hr : RDY υ := RDY.of hrd ⟨p2.2.2.2.2.2.2.1, p2.2.2.2.2.2.2.2⟩ (by
    unfold TOK
    rw [f.1 19 (by decide), f.1 20 (by decide), f.1 21 (by decide), f.1 22 (by decide), f.1 23 (by decide)]
    exact t.2.2.1.1) pc2 (by omega)
  exact t.go0E pb pc hr (TBm.of f (by decide) (by decide) (by decide) (by decide)) g
theorem CHG.put {ss ks js : List Nat} {c : Int} (f : Fr ss ks js τ υ) (hs : ∀ j ∈ [19, 20, 21, 22, 23, 28, 29, 25, 26, 27, 30, 31, 43], j ∉ ss) (hk : ∀ j ∈ [1, 35, 36, 45], j ∉ ks) (hj : ∀ j ∈ [24, 38, 44], j ∉ js) (e : υ.1 34 = c) : CHG τ υ (τ.1 28, τ.1 29, c) := by
  refine ⟨?_, ?_, sv_fr f (hs 21 (by decide)) (hk 1 (by decide)), srt_fr f (fun j q => hs j (by revert j q; decide)) (fun j q => hk j (by revert j q; decide)) (fun j q => hj j (by revert j q; decide))⟩
  · unfold tks
    rw [f.1 19 (hs 19 (by decide)), f.1 20 (hs 20 (by decide)), f.1 22 (hs 22 (by decide)), f.1 23 (hs 23 (by decide)), f.2.2 24 (hj 24 (by decide))]
  · unfold xs
    rw [f.1 28 (hs 28 (by decide)), f.1 29 (hs 29 (by decide)), e]
theorem TS.blk {new : List Nat} (t : TS k0 n σ (k :: rest) τ q lg X) (f : Fr [29] [] [] τ υ) (g : ∀ {c : Int}, GOM [k] τ (q c) [] new υ (q c) Pb []) : TS k0 n σ (new ++ rest) υ q lg (Pb ++ X) := by
  have pb : PBF τ υ := PBF.nop t.nn f (by decide) (by decide) (by decide)
  have pc : PBC 0 τ υ := PBC.nop f (by decide)
  have x := t.go0 pb pc (RDY.of t.2.2.1 ⟨pb.2.2.2.2.2.2.1, pb.2.2.2.2.2.2.2⟩ (by
    unfold TOK
    rw [f.1 19 (by decide), f.1 20 (by decide), f.1 21 (by decide), f.1 22 (by decide), f.1 23 (by decide)]
    exact t.2.2.1.1) pc (by decide)) (TBm.of f (by decide) (by decide) (by decide) (by decide)) g
  rw [Int.add_zero] at x
  exact x
end TSP
theorem SGF.one {σ τ : MS} {lg : List EV} (h34 : τ.1 34 = σ.1 34 + 1) (h33 : σ.1 33 ≤ τ.1 33) (o : σ.1 25 = 3 → σ.1 30 < 6 → σ.1 34 < 180 → OKI τ 1 (PXx σ)) (k : τ.2.1 3 (PXx σ) ≠ 8 ∧ τ.2.1 3 (PXx σ) ≠ 9 ∧ τ.2.1 3 (PXx σ) ≠ 10 ∧ τ.2.1 3 (PXx σ) ≠ 13 ∧ τ.2.1 3 (PXx σ) ≠ 14 ∧ τ.2.1 3 (PXx σ) ≠ 15) : SGF σ τ lg := fun a b c _ => by
  have e : PXx σ = 220 * σ.1 30 + σ.1 34 := by unfold PXx; rw [if_pos (by omega)]
  have o2 := o a b (by omega)
  rw [e] at k o2
  refine ⟨fun j x y => ?_, WS.plain h33 (by omega) (fun j x y => ?_)⟩
  · rw [show j = σ.1 34 by omega]; exact o2
  · rw [show j = σ.1 34 by omega]; exact k
end
section
theorem SGF.ifs {σ τ υ ω : MS} {lg : List EV} (h1 : τ.1 34 = σ.1 34 + 1 ∧ τ.1 33 = σ.1 33 + 1) (z : τ.2.1 3 (PXx σ) = 9 ∧ τ.2.1 4 (PXx σ) = σ.1 33) (oz : σ.1 25 = 3 → σ.1 30 < 6 → σ.1 34 < 180 → OKI τ 1 (PXx σ)) (p1 : PBF σ τ) (b : SGF τ υ lg) (p2 : PBF τ υ)
    (h3 : ω.1 34 = υ.1 34 + 1 ∧ ω.1 33 = υ.1 33) (l : ω.2.1 3 (PXx υ) = 13 ∧ ω.2.1 4 (PXx υ) = σ.1 33) (ol : υ.1 25 = 3 → υ.1 30 < 6 → υ.1 34 < 180 → OKI ω 1 (PXx υ)) (p3 : PBF υ ω) (t1 : TBm σ τ) (t2 : TBm τ υ) (t3 : TBm υ ω) (h0 : 0 ≤ σ.1 30 ∧ 0 ≤ σ.1 34) : SGF σ ω lg := fun a r c d => by
  have q6 := p2.2.2.2.2.2.1
  have e25 : τ.1 25 = σ.1 25 ∧ υ.1 25 = τ.1 25 := ⟨p1.2.2.2.2.2.2.1, p2.2.2.2.2.2.2.1⟩
  have e30 : τ.1 30 = σ.1 30 ∧ υ.1 30 = τ.1 30 := ⟨p1.2.2.2.2.2.2.2, p2.2.2.2.2.2.2.2⟩
  have xσ : PXx σ = 220 * σ.1 30 + σ.1 34 := by unfold PXx; rw [if_pos (by omega)]
  have xυ : PXx υ = 220 * σ.1 30 + υ.1 34 := by unfold PXx; rw [if_pos (by omega)]; omega
  have oz2 := oz a r (by omega)
  have ol2 := ol (by omega) (by omega) (by omega)
  rw [xσ] at z oz2
  rw [xυ] at l ol2
  have B := b (by omega) (by omega) (by omega) (fun e x => (d e x).tb t1)
  rw [e30.1, t1.1, h1.1, h1.2] at B
  have i3 : ∀ k, 0 ≤ k → k < υ.1 34 → IEQ υ (220 * σ.1 30 + k) ω (220 * σ.1 30 + k) := fun k x y => p3.1 _ (by omega) (by omega)
  have i2 : IEQ τ (220 * σ.1 30 + σ.1 34) ω (220 * σ.1 30 + σ.1 34) := (p2.1 _ (by omega) (by omega)).trans (i3 _ h0.2 (by omega))
  refine ⟨fun k x y => ?_, ?_⟩
  · by_cases k1 : k = σ.1 34
    · rw [k1]; exact i2.oki (t3.2.1.trans t2.2.1) oz2
    · by_cases k2 : k = υ.1 34
      · rw [k2]; exact ol2
      · exact (i3 k (by omega) (by omega)).oki t3.2.1 (B.1 k (by omega) (by omega))
  · rw [h3.1, h3.2]
    refine WS.ifs (B.2.ext (fun k x y => ?_)) ⟨?_, ?_⟩ ⟨l.1, l.2⟩
    · have := i3 k (by omega) y
      exact ⟨this.1, this.2.1, this.2.2.1⟩
    · exact i2.1.trans z.1
    · exact i2.2.1.trans z.2
end
section
theorem SGF.whl {σ τ υ φ χ ω : MS} {lg : List EV} (h1 : τ.1 34 = σ.1 34 + 2 ∧ τ.1 33 = σ.1 33 + 1) (z : σ.1 25 = 3 → σ.1 30 < 6 → σ.1 34 + 1 < 180 → ((τ.2.1 3 (220 * σ.1 30 + σ.1 34) = 13 ∧ τ.2.1 4 (220 * σ.1 30 + σ.1 34) = σ.1 33) ∧ τ.2.1 3 (220 * σ.1 30 + (σ.1 34 + 1)) = 11) ∧ OKI τ 1 (220 * σ.1 30 + σ.1 34) ∧ OKI τ 1 (220 * σ.1 30 + (σ.1 34 + 1))) (p1 : PBF σ τ)
    (ac : AC τ υ) (p2 : PBF τ υ) (h2 : υ.1 33 = τ.1 33)
    (h3 : φ.1 34 = υ.1 34 + 1 ∧ φ.1 33 = υ.1 33 + 1) (y : υ.1 25 = 3 → υ.1 30 < 6 → υ.1 34 < 180 → (φ.2.1 3 (220 * υ.1 30 + υ.1 34) = 9 ∧ φ.2.1 4 (220 * υ.1 30 + υ.1 34) = υ.1 33) ∧ OKI φ 1 (220 * υ.1 30 + υ.1 34)) (p3 : PBF υ φ)
    (b : SGF φ χ lg) (p4 : PBF φ χ)
    (h5 : ω.1 34 = χ.1 34 + 2 ∧ ω.1 33 = χ.1 33) (x : χ.1 25 = 3 → χ.1 30 < 6 → χ.1 34 + 1 < 180 → ((ω.2.1 3 (220 * χ.1 30 + χ.1 34) = 8 ∧ ω.2.1 4 (220 * χ.1 30 + χ.1 34) = σ.1 33) ∧ ω.2.1 3 (220 * χ.1 30 + (χ.1 34 + 1)) = 13 ∧ ω.2.1 4 (220 * χ.1 30 + (χ.1 34 + 1)) = σ.1 33 + 1) ∧ OKI ω 1 (220 * χ.1 30 + χ.1 34) ∧ OKI ω 1 (220 * χ.1 30 + (χ.1 34 + 1))) (p5 : PBF χ ω)
    (t1 : TBm σ τ) (t2 : TBm τ υ) (t3 : TBm υ φ) (t4 : TBm φ χ) (t5 : TBm χ ω) (h0 : 0 ≤ σ.1 30 ∧ 0 ≤ σ.1 34) : SGF σ ω lg := fun a r c d => by
  have m2 := p2.2.2.2.2.2.1
  have m4 := p4.2.2.2.2.2.1
  have e25 : τ.1 25 = σ.1 25 ∧ υ.1 25 = τ.1 25 ∧ φ.1 25 = υ.1 25 ∧ χ.1 25 = φ.1 25 := ⟨p1.2.2.2.2.2.2.1, p2.2.2.2.2.2.2.1, p3.2.2.2.2.2.2.1, p4.2.2.2.2.2.2.1⟩
  have e30 : τ.1 30 = σ.1 30 ∧ υ.1 30 = τ.1 30 ∧ φ.1 30 = υ.1 30 ∧ χ.1 30 = φ.1 30 := ⟨p1.2.2.2.2.2.2.2, p2.2.2.2.2.2.2.2, p3.2.2.2.2.2.2.2, p4.2.2.2.2.2.2.2⟩
  have Z := z a r (by omega)
  have Y := y (by omega) (by omega) (by omega)
  have X := x (by omega) (by omega) (by omega)
  have u30 : υ.1 30 = σ.1 30 := by omega
  have f30 : φ.1 30 = σ.1 30 := by omega
  have x30 : χ.1 30 = σ.1 30 := by omega
  rw [u30] at Y
  rw [x30] at X
  have B := b (by omega) (by omega) (by omega) (fun e w => (d e w).tb (t1.trans (t2.trans t3)))
  rw [f30, (t1.trans (t2.trans t3)).1] at B
  have i5 : ∀ k, 0 ≤ k → k < χ.1 34 → IEQ χ (220 * σ.1 30 + k) ω (220 * σ.1 30 + k) := fun k u w => p5.1 _ (by omega) (by omega)
  have i4 : ∀ k, 0 ≤ k → k < φ.1 34 → IEQ φ (220 * σ.1 30 + k) ω (220 * σ.1 30 + k) := fun k u w => (p4.1 _ (by omega) (by omega)).trans (i5 k u (by omega))
  have i3 : ∀ k, 0 ≤ k → k < υ.1 34 → IEQ υ (220 * σ.1 30 + k) ω (220 * σ.1 30 + k) := fun k u w => (p3.1 _ (by omega) (by omega)).trans (i4 k u (by omega))
  have i2 : ∀ k, 0 ≤ k → k < τ.1 34 → IEQ τ (220 * σ.1 30 + k) ω (220 * σ.1 30 + k) := fun k u w => (p2.1 _ (by omega) (by omega)).trans (i3 k u (by omega))
  have A := SGF.ac (lg := []) ac p2 (by omega) (by omega) (by omega) (by omega) (fun e w => absurd w (List.not_mem_nil))
  rw [e30.1] at A
  have ak : ∀ k, τ.1 34 ≤ k → k < υ.1 34 → 1 ≤ υ.2.1 3 (220 * σ.1 30 + k) ∧ υ.2.1 3 (220 * σ.1 30 + k) ≤ 5 := fun k u w => by
    have := (ac (by omega) (by omega) k u w (by omega)).1
    rw [e30.1] at this
    exact this
  have q3 := t5.2.1
  have q4 := q3.trans t4.2.1
  refine ⟨fun k u w => ?_, ?_⟩
  · by_cases k1 : k < τ.1 34
    · by_cases k0 : k = σ.1 34
      · rw [k0]; exact (i2 _ h0.2 (by omega)).oki (q4.trans (t3.2.1.trans t2.2.1)) Z.2.1
      · rw [show k = σ.1 34 + 1 by omega]; exact (i2 _ (by omega) (by omega)).oki (q4.trans (t3.2.1.trans t2.2.1)) Z.2.2
    · by_cases k2 : k < υ.1 34
      · exact (i3 k (by omega) k2).oki (q4.trans t3.2.1) (A.1 k (by omega) k2)
      · by_cases k3 : k = υ.1 34
        · rw [k3]; exact (i4 _ (by omega) (by omega)).oki q4 Y.2
        · by_cases k4 : k < χ.1 34
          · exact (i5 k (by omega) k4).oki q3 (B.1 k (by omega) k4)
          · by_cases k5 : k = χ.1 34
            · rw [k5]; exact X.2.1
            · rw [show k = χ.1 34 + 1 by omega]; exact X.2.2
  · rw [h5.1, h5.2]
    refine WS.whl (m := υ.1 34) (l1 := χ.1 33) ?_ (by omega) ⟨?_, ?_⟩ ?_ (fun k u w => ?_) ⟨?_, ?_⟩ ⟨X.1.1.1, X.1.1.2⟩ ⟨X.1.2.1, X.1.2.2⟩
    · have g := B.2.ext (K' := iK ω (σ.1 30)) (D' := iD ω (σ.1 30)) (O' := iO ω (σ.1 30)) (fun k u w => ⟨(i5 k (by omega) w).1, (i5 k (by omega) w).2.1, (i5 k (by omega) w).2.2.1⟩)
      rw [h3.1, h3.2, h2, h1.2, show σ.1 33 + 1 + 1 = σ.1 33 + 2 by omega] at g
      exact g
    · exact (i2 _ h0.2 (by omega)).1.trans Z.1.1.1
    · exact (i2 _ h0.2 (by omega)).2.1.trans Z.1.1.2
    · exact (i2 _ (by omega) (by omega)).1.trans Z.1.2
    · have := ak k (by omega) w
      have e := (i3 k (by omega) w).1
      show 0 ≤ ω.2.1 3 (220 * σ.1 30 + k) ∧ ω.2.1 3 (220 * σ.1 30 + k) ≤ 5
      rw [e]; omega
    · exact (i4 _ (by omega) (by omega)).1.trans Y.1.1
    · exact ((i4 _ (by omega) (by omega)).2.1.trans Y.1.2).trans (by omega)
end
section
theorem SGF.ife {σ τ υ φ χ ω : MS} {l1 l2 : List EV} (h1 : τ.1 34 = σ.1 34 + 1 ∧ τ.1 33 = σ.1 33 + 1) (z : σ.1 25 = 3 → σ.1 30 < 6 → σ.1 34 < 180 → (τ.2.1 3 (220 * σ.1 30 + σ.1 34) = 9 ∧ τ.2.1 4 (220 * σ.1 30 + σ.1 34) = σ.1 33) ∧ OKI τ 1 (220 * σ.1 30 + σ.1 34)) (p1 : PBF σ τ)
    (b1 : SGF τ υ l1) (p2 : PBF τ υ)
    (h3 : φ.1 34 = υ.1 34 + 2 ∧ φ.1 33 = υ.1 33 + 1) (y : υ.1 25 = 3 → υ.1 30 < 6 → υ.1 34 + 1 < 180 → ((φ.2.1 3 (220 * υ.1 30 + υ.1 34) = 8 ∧ φ.2.1 4 (220 * υ.1 30 + υ.1 34) = υ.1 33) ∧ φ.2.1 3 (220 * υ.1 30 + (υ.1 34 + 1)) = 13 ∧ φ.2.1 4 (220 * υ.1 30 + (υ.1 34 + 1)) = σ.1 33) ∧ OKI φ 1 (220 * υ.1 30 + υ.1 34) ∧ OKI φ 1 (220 * υ.1 30 + (υ.1 34 + 1))) (p3 : PBF υ φ)
    (b2 : SGF φ χ l2) (p4 : PBF φ χ)
    (h5 : ω.1 34 = χ.1 34 + 1 ∧ ω.1 33 = χ.1 33) (x : χ.1 25 = 3 → χ.1 30 < 6 → χ.1 34 < 180 → (ω.2.1 3 (220 * χ.1 30 + χ.1 34) = 13 ∧ ω.2.1 4 (220 * χ.1 30 + χ.1 34) = υ.1 33) ∧ OKI ω 1 (220 * χ.1 30 + χ.1 34)) (p5 : PBF χ ω)
    (t1 : TBm σ τ) (t2 : TBm τ υ) (t3 : TBm υ φ) (t4 : TBm φ χ) (t5 : TBm χ ω) (h0 : 0 ≤ σ.1 30 ∧ 0 ≤ σ.1 34) : SGF σ ω (l1 ++ l2) := fun a r c d => by
  have m2 := p2.2.2.2.2.2.1
  have m4 := p4.2.2.2.2.2.1
  have e25 : τ.1 25 = σ.1 25 ∧ υ.1 25 = τ.1 25 ∧ φ.1 25 = υ.1 25 ∧ χ.1 25 = φ.1 25 := ⟨p1.2.2.2.2.2.2.1, p2.2.2.2.2.2.2.1, p3.2.2.2.2.2.2.1, p4.2.2.2.2.2.2.1⟩
  have e30 : τ.1 30 = σ.1 30 ∧ υ.1 30 = τ.1 30 ∧ φ.1 30 = υ.1 30 ∧ χ.1 30 = φ.1 30 := ⟨p1.2.2.2.2.2.2.2, p2.2.2.2.2.2.2.2, p3.2.2.2.2.2.2.2, p4.2.2.2.2.2.2.2⟩
  have Z := z a r (by omega)
  have Y := y (by omega) (by omega) (by omega)
  have X := x (by omega) (by omega) (by omega)
  have u30 : υ.1 30 = σ.1 30 := by omega
  have f30 : φ.1 30 = σ.1 30 := by omega
  have x30 : χ.1 30 = σ.1 30 := by omega
  rw [u30] at Y
  rw [x30] at X
  have A := b1 (by omega) (by omega) (by omega) (fun e w => (d e (List.mem_append_left _ w)).tb t1)
  rw [e30.1, t1.1] at A
  have B := b2 (by omega) (by omega) (by omega) (fun e w => (d e (List.mem_append_right _ w)).tb (t1.trans (t2.trans t3)))
  rw [f30, (t1.trans (t2.trans t3)).1] at B
  have i5 : ∀ k, 0 ≤ k → k < χ.1 34 → IEQ χ (220 * σ.1 30 + k) ω (220 * σ.1 30 + k) := fun k u w => p5.1 _ (by omega) (by omega)
  have i4 : ∀ k, 0 ≤ k → k < φ.1 34 → IEQ φ (220 * σ.1 30 + k) ω (220 * σ.1 30 + k) := fun k u w => (p4.1 _ (by omega) (by omega)).trans (i5 k u (by omega))
  have i3 : ∀ k, 0 ≤ k → k < υ.1 34 → IEQ υ (220 * σ.1 30 + k) ω (220 * σ.1 30 + k) := fun k u w => (p3.1 _ (by omega) (by omega)).trans (i4 k u (by omega))
  have i2 : ∀ k, 0 ≤ k → k < τ.1 34 → IEQ τ (220 * σ.1 30 + k) ω (220 * σ.1 30 + k) := fun k u w => (p2.1 _ (by omega) (by omega)).trans (i3 k u (by omega))
  have q3 := t5.2.1
  have q4 := q3.trans t4.2.1
  refine ⟨fun k u w => ?_, ?_⟩
  · by_cases k1 : k = σ.1 34
    · rw [k1]; exact (i2 _ h0.2 (by omega)).oki (q4.trans (t3.2.1.trans t2.2.1)) Z.2
    · by_cases k2 : k < υ.1 34
      · exact (i3 k (by omega) k2).oki (q4.trans t3.2.1) (A.1 k (by omega) k2)
      · by_cases k3 : k = υ.1 34
        · rw [k3]; exact (i4 _ (by omega) (by omega)).oki q4 Y.2.1
        · by_cases k4 : k = υ.1 34 + 1
          · rw [k4]; exact (i4 _ (by omega) (by omega)).oki q4 Y.2.2
          · by_cases k5 : k < χ.1 34
            · exact (i5 k (by omega) k5).oki q3 (B.1 k (by omega) k5)
            · rw [show k = χ.1 34 by omega]; exact X.2
  · rw [h5.1, h5.2]
    refine WS.ife (b := υ.1 34) (l1 := υ.1 33) ?_ ?_ ⟨?_, ?_⟩ ⟨?_, ?_⟩ ⟨?_, ?_⟩ ⟨X.1.1, X.1.2⟩
    · have g := A.2.ext (K' := iK ω (σ.1 30)) (D' := iD ω (σ.1 30)) (O' := iO ω (σ.1 30)) (fun k u w => ⟨(i3 k (by omega) w).1, (i3 k (by omega) w).2.1, (i3 k (by omega) w).2.2.1⟩)
      rw [h1.1, h1.2] at g
      exact g
    · have g := B.2.ext (K' := iK ω (σ.1 30)) (D' := iD ω (σ.1 30)) (O' := iO ω (σ.1 30)) (fun k u w => ⟨(i5 k (by omega) w).1, (i5 k (by omega) w).2.1, (i5 k (by omega) w).2.2.1⟩)
      rw [h3.1, h3.2] at g
      exact g
    · exact (i2 _ h0.2 (by omega)).1.trans Z.1.1
    · exact (i2 _ h0.2 (by omega)).2.1.trans Z.1.2
    · exact (i4 _ (by omega) (by omega)).1.trans Y.1.1.1
    · exact (i4 _ (by omega) (by omega)).2.1.trans Y.1.1.2
    · exact (i4 _ (by omega) (by omega)).1.trans Y.1.2.1
    · exact (i4 _ (by omega) (by omega)).2.1.trans Y.1.2.2
end
section
theorem oki_bare {τ : MS} {x k d : Int} (h : ITz τ x k d 0) (hk : k = 11 ∨ k = 13 ∨ k = 8) (hd : k ≠ 11 → 0 ≤ d ∧ d < 4096) : OKI τ 1 x := by
  obtain ⟨h1, h2, h3, h4, h5⟩ := h
  refine ⟨by omega, by omega, by omega, by omega, by omega, by omega, by omega, fun i i0 i4 => ?_, by omega⟩
  rw [h5 i i0 i4]
  exact ⟨by omega, fun w => by omega⟩
theorem oki_arg1 {σ : MS} {x k d ak a : Int} (h : ITz σ x k d 0) (hk : k = 0 ∨ k = 6 ∨ k = 7 ∨ k = 9) (hd : k = 0 → 0 ≤ d ∧ d < 192) (hd9 : k = 9 → 0 ≤ d ∧ d < 4096) (ha : (0 ≤ ak ∧ ak ≤ 2) ∧ (ak = 2 → 0 ≤ a ∧ a < 192)) : OKI (fArg x 0 ak a σ) 1 x := by
  have e3 : (fArg x 0 ak a σ).2.1 3 x = k := h.1
  have e4 : (fArg x 0 ak a σ).2.1 4 x = d := h.2.1
  have e5 : (fArg x 0 ak a σ).2.1 5 x = 0 := h.2.2.1
  have en : nArgs (fArg x 0 ak a σ) x = 1 := by
    unfold nArgs
    rw [e3]
    rcases hk with e | e | e | e <;> subst e <;> simp
  refine ⟨by omega, by omega, by omega, by omega, by omega, by omega, by omega, fun i i0 i4 => ?_, by omega⟩
  by_cases z : i = 0
  · rw [z, fArg_at.1, fArg_at.2, en]
    exact ⟨ha.1, fun w => ⟨ha.2 w, by omega⟩⟩
  · rw [(fArg_ne z).1, (fArg_ne z).2, en]
    have q : σ.2.1 7 (4 * x + i) = 0 := h.2.2.2.2 i i0 i4
    rw [q]
    exact ⟨by omega, fun w => by omega⟩
end
section
theorem WS.line {K D O : Int → Int} {R a b l0 l1 : Int} (hl : l0 ≤ l1) (hab : a < b) (h1 : K a = 11 ∧ O a = 0) (h2 : ∀ k, a < k → k < b → (K k ≠ 8 ∧ K k ≠ 9 ∧ K k ≠ 13 ∧ K k ≠ 14 ∧ K k ≠ 15) ∧ (K k = 10 → (0 ≤ O k ∧ O k < R) ∧ ∀ i, a < i → i < k → 0 ≤ K i ∧ K i ≤ 5)) : WS K D O R a b l0 l1 := by
  have nk : ∀ k, a ≤ k → k < b → K k ≠ 8 ∧ K k ≠ 9 ∧ K k ≠ 13 ∧ K k ≠ 14 ∧ K k ≠ 15 := fun k x y => by
    by_cases e : k = a
    · rw [e]; omega
    · exact (h2 k (by omega) y).1
  refine ⟨⟨hl, by omega⟩, fun k x y => ⟨(nk k x y).2.2.2.1, (nk k x y).2.2.2.2, fun z => ?_⟩, fun k x y z => ?_, fun p j x y u w e f i => ?_, fun k x y z => ?_⟩
  · have := nk k x y; omega
  · have := nk k x y; omega
  · have := nk p x y; omega
  · by_cases e : k = a
    · rw [e] at z; omega
    · have q := (h2 k (by omega) y).2 z
      exact ⟨q.1, a, by omega, by omega, h1.1, h1.2, fun i x2 y2 => q.2 i x2 y2⟩
def FS (σ τ : MS) : Prop := σ.1 25 = 3 → σ.1 30 < 6 → τ.1 34 ≤ 180 → τ.1 34 = σ.1 34 ∨ (τ.2.1 3 (220 * σ.1 30 + σ.1 34) = 11 ∧ σ.1 34 < τ.1 34) ∨ ((τ.2.1 3 (220 * σ.1 30 + σ.1 34) = 13 ∧ τ.2.1 3 (220 * σ.1 30 + (σ.1 34 + 1)) = 11) ∧ σ.1 34 + 1 < τ.1 34)
theorem FS.cat {σ τ υ : MS} (h : FS σ τ) (g : FS τ υ) (p : PBF σ τ) (q : PBF τ υ) (h0 : 0 ≤ σ.1 30 ∧ 0 ≤ σ.1 34) : FS σ υ := fun a b c => by
  obtain ⟨-, -, -, -, -, p6, p7, p8⟩ := p
  obtain ⟨q1, -, -, -, -, q6, -, -⟩ := q
  have H := h a b (by omega)
  have ie : ∀ k, σ.1 34 ≤ k → k < τ.1 34 → IEQ τ (220 * σ.1 30 + k) υ (220 * σ.1 30 + k) := fun k x y => q1 _ (by omega) (by omega)
  rcases H with e | e | e
  · have G := g (by omega) (by omega) c
    rw [p8, e] at G
    exact G
  · exact Or.inr (Or.inl ⟨(ie _ (Int.le_refl _) e.2).1.trans e.1, by omega⟩)
  · exact Or.inr (Or.inr ⟨⟨(ie _ (Int.le_refl _) (by omega)).1.trans e.1.1, (ie _ (by omega) e.2).1.trans e.1.2⟩, by omega⟩)
theorem FS.nil {σ τ : MS} (h : τ.1 34 = σ.1 34) : FS σ τ := fun _ _ _ => Or.inl h
def ASF (σ τ : MS) (lg : List EV) : Prop := σ.1 25 = 3 → σ.1 30 < 6 → τ.1 34 ≤ 180 → (∀ e ∈ lg, E3 σ e) → ∀ k, σ.1 34 ≤ k → k < τ.1 34 → OKI τ 1 (220 * σ.1 30 + k) ∧ (iK τ (σ.1 30) k ≠ 8 ∧ iK τ (σ.1 30) k ≠ 9 ∧ iK τ (σ.1 30) k ≠ 13 ∧ iK τ (σ.1 30) k ≠ 14 ∧ iK τ (σ.1 30) k ≠ 15) ∧ (iK τ (σ.1 30) k = 10 → (0 ≤ iO τ (σ.1 30) k ∧ iO τ (σ.1 30) k < σ.1 43) ∧ ∀ i, σ.1 34 ≤ i → i < k → 0 ≤ iK τ (σ.1 30) i ∧ iK τ (σ.1 30) i ≤ 5)
theorem ASF.num {σ τ : MS} {lg : List EV} (h : AC σ τ) (p : PBF σ τ) (h33 : σ.1 33 ≤ τ.1 33) : ASF σ τ lg := fun a b c d k x y => by
  have A := (SGF.ac (lg := lg) h p h33 a b c d).1 k x y
  have ck := (h a b k x y (by omega)).1
  refine ⟨A, ?_, fun z => ?_⟩
  · simp only [iK]; omega
  · simp only [iK] at z; omega
theorem ASF.mv {σ τ υ : MS} {lg : List EV} (h : ASF σ τ lg) (p : PBF σ τ) (q : PBF τ υ) (t2 : TBm τ υ) (e : υ.1 34 = τ.1 34) (h0 : 0 ≤ σ.1 30 ∧ 0 ≤ σ.1 34) : ASF σ υ lg := fun a b c d k x y => by
  have e25 : τ.1 25 = σ.1 25 := p.2.2.2.2.2.2.1
  have e30 : τ.1 30 = σ.1 30 := p.2.2.2.2.2.2.2
  have H := h a b (by omega) d
  have ie : ∀ k, σ.1 34 ≤ k → k < τ.1 34 → IEQ τ (220 * σ.1 30 + k) υ (220 * σ.1 30 + k) := fun k x y => q.1 _ (by omega) (by omega)
  have A := H k x (by omega)
  have I := ie k x (by omega)
  refine ⟨I.oki t2.2.1 A.1, ?_, fun w => ?_⟩
  · simp only [iK]; rw [I.1]; exact A.2.1
  · simp only [iK] at w; rw [I.1] at w
    have B := A.2.2 w
    refine ⟨by simp only [iO]; rw [I.2.2.1]; exact B.1, fun i u v => ?_⟩
    simp only [iK]; rw [(ie i u (by omega)).1]; exact B.2 i u v
theorem ASF.snoc {σ τ υ : MS} {lg : List EV} (h : ASF σ τ lg) (p : PBF σ τ) (q : PBF τ υ) (t2 : TBm τ υ) (e : υ.1 34 = τ.1 34 + 1) (o : τ.1 25 = 3 → τ.1 30 < 6 → τ.1 34 < 180 → OKI υ 1 (PXx τ)) (kk : υ.2.1 3 (PXx τ) = 0 ∨ υ.2.1 3 (PXx τ) = 6 ∨ υ.2.1 3 (PXx τ) = 7 ∨ υ.2.1 3 (PXx τ) = 12) (h0 : 0 ≤ σ.1 30 ∧ 0 ≤ σ.1 34) : ASF σ υ lg := fun a b c d k x y => by
  have p6 := p.2.2.2.2.2.1
  have e25 : τ.1 25 = σ.1 25 := p.2.2.2.2.2.2.1
  have e30 : τ.1 30 = σ.1 30 := p.2.2.2.2.2.2.2
  have H := h a b (by omega) d
  have ie : ∀ k, σ.1 34 ≤ k → k < τ.1 34 → IEQ τ (220 * σ.1 30 + k) υ (220 * σ.1 30 + k) := fun k x y => q.1 _ (by omega) (by omega)
  have xe : PXx τ = 220 * σ.1 30 + τ.1 34 := by unfold PXx; rw [if_pos (by omega), e30]
  have o2 := o (by omega) (by omega) (by omega)
  rw [xe] at o2 kk
  by_cases z : k < τ.1 34
  · have A := H k x z
    have I := ie k x z
    refine ⟨I.oki t2.2.1 A.1, ?_, fun w => ?_⟩
    · simp only [iK]; rw [I.1]; exact A.2.1
    · simp only [iK] at w; rw [I.1] at w
      have B := A.2.2 w
      refine ⟨by simp only [iO]; rw [I.2.2.1]; exact B.1, fun i u v => ?_⟩
      simp only [iK]; rw [(ie i u (by omega)).1]; exact B.2 i u v
  · rw [show k = τ.1 34 by omega]
    refine ⟨o2, ?_, fun w => ?_⟩
    · simp only [iK]; omega
    · simp only [iK] at w; omega
theorem ASF.call {σ τ υ : MS} {lg : List EV} (h : AC σ τ) (p : PBF σ τ) (q : PBF τ υ) (t2 : TBm τ υ) (h33 : σ.1 33 ≤ τ.1 33) (e : υ.1 34 = τ.1 34 + 1) (kk : υ.2.1 3 (PXx τ) = 10) (o : σ.1 25 = 3 → σ.1 30 < 6 → τ.1 34 < 180 → (∀ e ∈ lg, E3 σ e) → OKI υ 1 (PXx τ) ∧ 0 ≤ υ.2.1 5 (PXx τ) ∧ υ.2.1 5 (PXx τ) < σ.1 43) (h0 : 0 ≤ σ.1 30 ∧ 0 ≤ σ.1 34) : ASF σ υ lg := fun a b c d k x y => by
  have p6 := p.2.2.2.2.2.1
  have e25 : τ.1 25 = σ.1 25 := p.2.2.2.2.2.2.1
  have e30 : τ.1 30 = σ.1 30 := p.2.2.2.2.2.2.2
  have H := (SGF.ac (lg := lg) h p h33 a b (by omega) d).1
  have hk : ∀ k, σ.1 34 ≤ k → k < τ.1 34 → 1 ≤ τ.2.1 3 (220 * σ.1 30 + k) ∧ τ.2.1 3 (220 * σ.1 30 + k) ≤ 5 := fun k x y => (h a b k x y (by omega)).1
  have ie : ∀ k, σ.1 34 ≤ k → k < τ.1 34 → IEQ τ (220 * σ.1 30 + k) υ (220 * σ.1 30 + k) := fun k x y => q.1 _ (by omega) (by omega)
  have xe : PXx τ = 220 * σ.1 30 + τ.1 34 := by unfold PXx; rw [if_pos (by omega), e30]
  have o2 := o a b (by omega) d
  rw [xe] at o2 kk
  by_cases z : k < τ.1 34
  · have I := ie k x z
    have A := hk k x z
    refine ⟨I.oki t2.2.1 (H k x z), ?_, fun w => ?_⟩
    · simp only [iK]; rw [I.1]; omega
    · simp only [iK] at w; rw [I.1] at w; omega
  · rw [show k = τ.1 34 by omega]
    refine ⟨o2.1, ?_, fun w => ⟨o2.2, fun i u v => ?_⟩⟩
    · simp only [iK]; omega
    · simp only [iK]; rw [(ie i u v).1]
      have := hk i u v
      omega
def LIT (ρ σ : MS) : Prop := (σ.2.1 3 (PXx ρ) = 11 ∧ σ.2.1 5 (PXx ρ) = 0) ∧ OKI σ 1 (PXx ρ)
theorem FS.of {ρ σ ω : MS} (h : LIT ρ σ) (e : σ.1 34 = ρ.1 34 + 1) (p : PBF ρ σ) (q : PBF σ ω) (h0 : 0 ≤ ρ.1 30 ∧ 0 ≤ ρ.1 34) : FS ρ ω := fun a b c => by
  have m2 := q.2.2.2.2.2.1
  have e30 : σ.1 30 = ρ.1 30 := p.2.2.2.2.2.2.2
  have x : PXx ρ = 220 * ρ.1 30 + ρ.1 34 := by unfold PXx; rw [if_pos (by omega)]
  have Z := h.1.1
  rw [x] at Z
  exact Or.inr (Or.inl ⟨(q.1 _ (by omega) (by omega)).1.trans Z, by omega⟩)
theorem SGF.line {σ τ ω : MS} {lg : List EV} (h1 : τ.1 34 = σ.1 34 + 1) (z : LIT σ τ) (p1 : PBF σ τ) (p2 : PBF τ ω) (t1 : TBm σ τ) (t2 : TBm τ ω) (h33 : σ.1 33 ≤ ω.1 33) (as : ASF τ ω lg) (h0 : 0 ≤ σ.1 30 ∧ 0 ≤ σ.1 34) : SGF σ ω lg := fun a b c d => by
  have m2 := p2.2.2.2.2.2.1
  have e25 : τ.1 25 = σ.1 25 := p1.2.2.2.2.2.2.1
  have e30 : τ.1 30 = σ.1 30 := p1.2.2.2.2.2.2.2
  have x : PXx σ = 220 * σ.1 30 + σ.1 34 := by unfold PXx; rw [if_pos (by omega)]
  obtain ⟨k1, k2⟩ := z
  rw [x] at k1 k2
  have k3 : IEQ τ (220 * σ.1 30 + σ.1 34) ω (220 * σ.1 30 + σ.1 34) := p2.1 _ (by omega) (by omega)
  have A := as (by omega) (by omega) c (fun e w => (d e w).tb t1)
  rw [e30, t1.1] at A
  refine ⟨fun k x y => ?_, WS.line h33 (by omega) ⟨k3.1.trans k1.1, k3.2.2.1.trans k1.2⟩ (fun k x y => ?_)⟩
  · by_cases e : k = σ.1 34
    · rw [e]; exact k3.oki t2.2.1 k2
    · exact (A k (by omega) y).1
  · have q := A k (by omega) y
    exact ⟨q.2.1, fun w => ⟨(q.2.2 w).1, fun i u v => (q.2.2 w).2 i (by omega) v⟩⟩
def LNP (j : Int) (ρ σ : MS) : Prop := RDY ρ ∧ NN ρ ∧ Fr [26, 27, 31, 34] [3, 4, 5, 6, 7, 8, 37] [] ρ σ ∧ PBF ρ σ ∧ (σ.1 34 = ρ.1 34 + j ∧ σ.1 31 = ρ.1 31 + 1) ∧ ρ.1 22 ≠ 0 ∧ srt σ = srt (lnP (ρ.1 19) ρ)
theorem LNP.tok {j : Int} {ρ σ : MS} (h : LNP j ρ σ) : TOK σ := by
  obtain ⟨h1, -, f, -⟩ := h
  unfold TOK
  rw [f.1 19 (by decide), f.1 20 (by decide), f.1 21 (by decide), f.1 22 (by decide), f.1 23 (by decide)]
  exact h1.1
theorem LNP.h0 {j : Int} {ρ σ : MS} (h : LNP j ρ σ) : 0 ≤ ρ.1 30 ∧ 0 ≤ ρ.1 34 := ⟨h.1.2.2.1.1, h.1.2.2.2.1.1⟩
theorem LNP.tb {j : Int} {ρ σ : MS} (h : LNP j ρ σ) : TBm ρ σ := TBm.of h.2.2.1 (by decide) (by decide) (by decide) (by decide)
theorem TS.line {j : Int} {ρ σ τ : MS} {new : List Nat} {Pb : List ME} (l : LNP j ρ σ) (hj : 0 ≤ j ∧ j ≤ 1) (f : Fr [19, 20, 22, 23, 26, 27] [35] [24, 38] σ τ) (pb : PBF σ τ) (tok : TOK τ) (p : σ.1 20 ≤ τ.1 19) (g : ∀ {c : Int}, GOM [20] ρ (qq c) [] new τ (qq c) Pb []) : TS 20 (2 - j) ρ new τ qq [] Pb := by
  have tb := l.tb
  obtain ⟨l1, l2, l3, l4, l5, l6⟩ := l
  have hs := l1.1.2.1 l6.1
  have pc : PBC (2 - j) ρ τ := by
    unfold PBC
    rw [f.1 34 (by decide), f.1 32 (by decide), f.1 31 (by decide), f.1 33 (by decide), l3.1 32 (by decide), l3.1 33 (by decide)]
    have e20 := l3.1 20 (by decide)
    omega
  have pp := l4.trans pb
  exact ⟨pp, pc, RDY.of l1 ⟨pp.2.2.2.2.2.2.1, pp.2.2.2.2.2.2.2⟩ tok pc (by omega), tb.trans (TBm.of f (by decide) (by decide) (by decide) (by decide)), P2F.nil, fun _ => g⟩
def BLQ (k0 : Nat) (n : Int) (σ τ : MS) : Prop := ∃ lg, TS k0 n σ [] τ qq lg [] ∧ SGF σ τ lg ∧ FS σ τ ∧ τ.1 28 = σ.1 28 ∧ τ.1 29 = σ.1 29
section TSX
variable {k0 k : Nat} {n m : Int} {σ τ υ : MS} {rest kk : List Nat} {q : Int → QR} {lg l2 : List EV} {X Pb : List ME}
theorem TS.le (t : TS k0 n σ kk τ q lg X) (h : m ≤ n) : TS k0 m σ kk τ q lg X := ⟨t.1, t.2.1.le h, t.2.2⟩
theorem TS.sub (t : TS k0 n σ (k :: rest) τ qq lg X) (u : TS k m τ [] υ qq l2 []) : TS k0 (n + m) σ rest υ qq (lg ++ l2) X := t.go u.1 u.2.1 u.2.2.1 u.2.2.2.1 u.2.2.2.2.1 (u.2.2.2.2.2 _)
theorem TS.h0 (t : TS k0 n σ kk τ q lg X) (hrd : RDY σ) : 0 ≤ σ.1 30 ∧ 0 ≤ σ.1 34 := ⟨hrd.2.2.1.1, hrd.2.2.2.1.1⟩
theorem TS.h1 (t : TS k0 n σ kk τ q lg X) : 0 ≤ τ.1 30 ∧ 0 ≤ τ.1 34 := ⟨t.2.2.1.2.2.1.1, t.2.2.1.2.2.2.1.1⟩
theorem TS.back {new : List Nat} {q2 : Int → QR} (t : TS k0 n σ (k :: rest) τ q lg X) (f : Fr [19, 20, 22, 23] [] [24] τ υ) (e : υ.1 19 = τ.1 19 ∧ υ.1 20 = τ.1 20 ∧ υ.1 22 = 2) (h22 : τ.1 22 ≠ 0) (h23 : -1 ≤ υ.1 23 ∧ υ.1 23 ≤ 9999999) (g : ∀ {c : Int}, GOM [k] τ (q c) [] new υ (q2 c) Pb []) : TS k0 n σ (new ++ rest) υ q2 lg (Pb ++ X) := by
  have pb : PBF τ υ := PBF.nop t.nn f (by decide) (by decide) (by decide)
  have tk := t.2.2.1.1
  have pc : PBC 0 τ υ := by
    unfold PBC
    rw [f.1 34 (by decide), f.1 32 (by decide), f.1 31 (by decide), f.1 33 (by decide), e.1]
    omega
  have hr : TOK υ := by
    unfold TOK at tk ⊢
    rw [e.1, e.2.1, e.2.2, f.1 21 (by decide)]
    omega
  have x := t.go0 pb pc (RDY.of t.2.2.1 ⟨pb.2.2.2.2.2.2.1, pb.2.2.2.2.2.2.2⟩ hr pc (by decide)) (TBm.of f (by decide) (by decide) (by decide) (by decide)) g
  rw [Int.add_zero] at x
  exact x
end TSX
theorem WD.bk {ss ks js : List Nat} {σ τ : MS} {w : Int64} (f : Fr ss ks js σ τ) (h1 : 22 ∉ ss) (h2 : 24 ∉ js) : WD τ w ↔ WD σ w := by unfold WD; rw [f.1 22 h1, f.2.2 24 h2]
theorem NMW.bk {ss ks js : List Nat} {σ τ : MS} (f : Fr ss ks js σ τ) (h1 : 22 ∉ ss) (h2 : 24 ∉ js) : NMW τ ↔ NMW σ := by unfold NMW; rw [f.1 22 h1, f.2.2 24 h2]
theorem PBF.it {ss ks js : List Nat} {σ υ : MS} {v : Int} (hn : NN σ) (f : Fr ss ks js σ υ) (hs : ∀ k ∈ [25, 26, 30], k ∉ ss) (hk : 35 ∉ ks) (hj : 38 ∉ js) (h34 : υ.1 34 = σ.1 34 + 1) (e : v = PXx σ) (o : OFF v σ υ) : PBF σ υ := PBF.put hn f hs hk hj h34 (by rw [← e]; exact o)
theorem ASF.pre {σ τ υ : MS} {lg : List EV} (h : ASF τ υ lg) (p : PBF σ τ) (t : TBm σ τ) (e : τ.1 34 = σ.1 34) : ASF σ υ lg := fun a b c d => by
  have e25 : τ.1 25 = σ.1 25 := p.2.2.2.2.2.2.1
  have e30 : τ.1 30 = σ.1 30 := p.2.2.2.2.2.2.2
  have H := h (by omega) (by omega) c (fun e w => (d e w).tb t)
  rw [e30, e, t.1] at H
  exact H
end
section
def CAG (m : Int) (σ : MS) : Prop := ∀ i, 0 ≤ i → i < m → i < 4 → (σ.2.1 41 i = 1 ∨ σ.2.1 41 i = 2) ∧ (σ.2.1 41 i = 2 → 0 ≤ σ.2.1 42 i ∧ σ.2.1 42 i < 12 + σ.1 34)
theorem CAG.nil {σ : MS} : CAG 0 σ := fun i a b _ => by omega
theorem CAG.mv {ss ks js : List Nat} {m : Int} {σ τ : MS} (h : CAG m σ) (f : Fr ss ks js σ τ) (h1 : 41 ∉ ks) (h2 : 42 ∉ ks) (h34 : σ.1 34 ≤ τ.1 34) : CAG m τ := fun i a b c => by
  have q := h i a b c
  rw [f.2.1 41 h1, f.2.1 42 h2]
  refine ⟨q.1, fun z => ?_⟩
  have := q.2 z
  omega
theorem CAG.put {m : Int} {σ : MS} (h : CAG m σ) (g : GTm σ) : CAG (m + 1) (sA 42 m (σ.1 40) (sA 41 m (σ.1 39) σ)) := fun i a b c => by
  by_cases e : i = m
  · rw [e, show (sA 42 m (σ.1 40) (sA 41 m (σ.1 39) σ)).2.1 41 m = σ.1 39 from ra_o (by decide) ra_eq, show (sA 42 m (σ.1 40) (sA 41 m (σ.1 39) σ)).2.1 42 m = σ.1 40 from ra_eq]
    exact g
  · rw [show (sA 42 m (σ.1 40) (sA 41 m (σ.1 39) σ)).2.1 41 i = σ.2.1 41 i from ra_o (by decide) (ra_ne e rfl), show (sA 42 m (σ.1 40) (sA 41 m (σ.1 39) σ)).2.1 42 i = σ.2.1 42 i from ra_ne e (ra_o (by decide) rfl)]
    exact h i a (by omega) c
theorem CAG.more {m : Int} {σ : MS} (h : CAG m σ) (g : 4 ≤ m) : CAG (m + 1) σ := fun i a b c => h i a (by omega) c
def CRG (σ τ : MS) (x i : Int) : Prop := ∀ j, 0 ≤ j → j < 4 → (j < i → τ.2.1 7 (4 * x + j) = σ.2.1 41 j ∧ τ.2.1 8 (4 * x + j) = σ.2.1 42 j) ∧ (i ≤ j → τ.2.1 7 (4 * x + j) = σ.2.1 7 (4 * x + j) ∧ τ.2.1 8 (4 * x + j) = σ.2.1 8 (4 * x + j))
theorem CRG.start {σ : MS} {x : Int} : CRG σ σ x 0 := fun j a b => ⟨fun q => by omega, fun _ => ⟨rfl, rfl⟩⟩
theorem CRG.step {σ τ : MS} {x i k v : Int} (h : CRG σ τ x i) (h0 : 0 ≤ i) (e1 : k = σ.2.1 41 i) (e2 : v = σ.2.1 42 i) : CRG σ (fArg x i k v τ) x (i + 1) := fun j a b => by
  by_cases z : j = i
  · rw [z, fArg_at.1, fArg_at.2]
    exact ⟨fun _ => ⟨e1, e2⟩, fun q => by omega⟩
  · rw [(fArg_ne z).1, (fArg_ne z).2]
    have q := h j a b
    exact ⟨fun w => q.1 (by omega), fun w => q.2 (by omega)⟩
theorem oki_call {σ τ : MS} {x k q m i : Int} (h : ITz σ x 10 k q) (hk : 0 ≤ k ∧ k < 12) (hq : 0 ≤ q ∧ q < 6) (f : Fr [] [7, 8] [] σ τ) (ha : CRG σ τ x i) (hi : i ≤ m ∧ i ≤ 4) (hc : CAG m σ) (h34 : σ.1 34 ≤ 180) (hm : σ.2.1 11 q = m) : OKI τ 1 x := by
  have e3 : τ.2.1 3 x = 10 := by rw [f.2.1 3 (by decide)]; exact h.1
  have e4 : τ.2.1 4 x = k := by rw [f.2.1 4 (by decide)]; exact h.2.1
  have e5 : τ.2.1 5 x = q := by rw [f.2.1 5 (by decide)]; exact h.2.2.1
  have en : nArgs τ x = m := by
    unfold nArgs
    rw [if_pos e3, e5, f.2.1 11 (by decide)]
    exact hm
  refine ⟨by omega, by omega, by omega, by omega, by omega, by omega, by omega, fun j j0 j4 => ?_, by omega⟩
  rw [en]
  by_cases z : j < i
  · obtain ⟨a1, a2⟩ := (ha j j0 j4).1 z
    have g := hc j j0 (by omega) j4
    rw [a1, a2]
    refine ⟨by omega, fun w => ?_⟩
    have := g.2 w
    exact ⟨by omega, by omega⟩
  · rw [((ha j j0 j4).2 (by omega)).1, h.2.2.2.2 j j0 j4]
    exact ⟨by omega, fun w => by omega⟩
def CAA (as : List (Int × Int)) (m : Int) (σ : MS) : Prop := (as.length : Int) = m ∧ ∀ i : Nat, i < as.length → i < 4 → as.getD i (0, 0) = (σ.2.1 41 i, σ.2.1 42 i)
theorem CAA.nil {σ : MS} : CAA [] 0 σ := ⟨rfl, fun i a _ => absurd a (by simp)⟩
theorem CAA.mv {ss ks js : List Nat} {as : List (Int × Int)} {m : Int} {σ τ : MS} (h : CAA as m σ) (f : Fr ss ks js σ τ) (h1 : 41 ∉ ks) (h2 : 42 ∉ ks) : CAA as m τ := by
  unfold CAA
  rw [f.2.1 41 h1, f.2.1 42 h2]
  exact h
theorem getD_snoc {as : List (Int × Int)} {z d : Int × Int} {i : Nat} (h : i < as.length) : (as ++ [z]).getD i d = as.getD i d := by
  rw [List.getD_eq_getElem?_getD, List.getD_eq_getElem?_getD, List.getElem?_append_left h]
theorem getD_last {as : List (Int × Int)} {z d : Int × Int} : (as ++ [z]).getD as.length d = z := by
  rw [List.getD_eq_getElem?_getD, List.getElem?_append_right (Nat.le_refl _), Nat.sub_self]
  rfl
theorem CAA.put {as : List (Int × Int)} {m : Int} {σ : MS} (h : CAA as m σ) : CAA (as ++ [(σ.1 39, σ.1 40)]) (m + 1) (sA 42 m (σ.1 40) (sA 41 m (σ.1 39) σ)) := by
  obtain ⟨h1, h2⟩ := h
  refine ⟨by rw [List.length_append]; show ((as.length + 1 : Nat) : Int) = m + 1; omega, fun i a b => ?_⟩
  rw [List.length_append] at a
  have a2 : i < as.length + 1 := a
  by_cases e : i = as.length
  · have ei : (i : Int) = m := by omega
    rw [e, getD_last, ← e, ei, show (sA 42 m (σ.1 40) (sA 41 m (σ.1 39) σ)).2.1 41 m = σ.1 39 from ra_o (by decide) ra_eq, show (sA 42 m (σ.1 40) (sA 41 m (σ.1 39) σ)).2.1 42 m = σ.1 40 from ra_eq]
  · have ei : (i : Int) ≠ m := by omega
    rw [getD_snoc (by omega), show (sA 42 m (σ.1 40) (sA 41 m (σ.1 39) σ)).2.1 41 i = σ.2.1 41 i from ra_o (by decide) (ra_ne ei rfl), show (sA 42 m (σ.1 40) (sA 41 m (σ.1 39) σ)).2.1 42 i = σ.2.1 42 i from ra_ne ei (ra_o (by decide) rfl)]
    exact h2 i (by omega) b
theorem CAA.more {as : List (Int × Int)} {z : Int × Int} {m : Int} {σ : MS} (h : CAA as m σ) (g : 4 ≤ m) : CAA (as ++ [z]) (m + 1) σ := by
  obtain ⟨h1, h2⟩ := h
  refine ⟨by rw [List.length_append]; show ((as.length + 1 : Nat) : Int) = m + 1; omega, fun i a b => ?_⟩
  rw [getD_snoc (by omega)]
  exact h2 i (by omega) b
theorem getD_out {as : List (Int × Int)} {d : Int × Int} {i : Nat} (h : as.length ≤ i) : as.getD i d = d := by
  rw [List.getD_eq_getElem?_getD, List.getElem?_eq_none h]
  rfl
theorem ri_call {σ τ : MS} {x kn v m i : Int} {as : List (Int × Int)} (h : rI σ x = mkI 10 kn v 0 0 0) (f : Fr [] [7, 8] [] σ τ) (c : CRG σ τ x i) (hi : (0 ≤ i ∧ i ≤ 4 ∧ i ≤ m) ∧ (4 ≤ i ∨ m ≤ i)) (a : CAA as m σ) : rI τ x = itC kn v as := by
  have c0 : ∀ z, (z = 0 ∨ z = 1 ∨ z = 2 ∨ z = 11) → rI τ x z = rI σ x z := fun z hz => by
    rcases hz with rfl | rfl | rfl | rfl
    · exact congrFun (f.2.1 3 (by decide)) x
    · exact congrFun (f.2.1 4 (by decide)) x
    · exact congrFun (f.2.1 5 (by decide)) x
    · exact congrFun (f.2.1 6 (by decide)) x
  have ar : ∀ j : Nat, j < 4 → (rI τ x (3 + 2 * (j : Int)), rI τ x (4 + 2 * (j : Int))) = argA as j := fun j hj => by
    rw [riK (by omega) (by omega), riN (by omega) (by omega)]
    have cj := c j (by omega) (by omega)
    obtain ⟨a1, a2⟩ := a
    unfold argA
    by_cases z : (j : Int) < i
    · rw [(cj.1 z).1, (cj.1 z).2, a2 j (by omega) hj]
    · have q := cj.2 (by omega)
      have n7 : rI σ x (3 + 2 * (j : Int)) = 0 := by
        rw [h]
        have hz : j = 0 ∨ j = 1 ∨ j = 2 ∨ j = 3 := by omega
        rcases hz with rfl | rfl | rfl | rfl <;> rfl
      have n8 : rI σ x (4 + 2 * (j : Int)) = 0 := by
        rw [h]
        have hz : j = 0 ∨ j = 1 ∨ j = 2 ∨ j = 3 := by omega
        rcases hz with rfl | rfl | rfl | rfl <;> rfl
      rw [riK (by omega) (by omega)] at n7
      rw [riN (by omega) (by omega)] at n8
      rw [q.1, q.2, n7, n8, getD_out (by omega)]
  have a0 := ar 0 (by decide)
  have a1 := ar 1 (by decide)
  have a2 := ar 2 (by decide)
  have a3 := ar 3 (by decide)
  funext z
  by_cases h0 : z = 0
  · subst h0; rw [c0 0 (Or.inl rfl), h]; rfl
  by_cases h1 : z = 1
  · subst h1; rw [c0 1 (Or.inr (Or.inl rfl)), h]; rfl
  by_cases h2 : z = 2
  · subst h2; rw [c0 2 (Or.inr (Or.inr (Or.inl rfl))), h]; rfl
  by_cases h3 : z = 3
  · subst h3; exact congrArg Prod.fst a0
  by_cases h4 : z = 4
  · subst h4; exact congrArg Prod.snd a0
  by_cases h5 : z = 5
  · subst h5; exact congrArg Prod.fst a1
  by_cases h6 : z = 6
  · subst h6; exact congrArg Prod.snd a1
  by_cases h7 : z = 7
  · subst h7; exact congrArg Prod.fst a2
  by_cases h8 : z = 8
  · subst h8; exact congrArg Prod.snd a2
  by_cases h9 : z = 9
  · subst h9; exact congrArg Prod.fst a3
  by_cases h10 : z = 10
  · subst h10; exact congrArg Prod.snd a3
  by_cases h11 : z = 11
  · subst h11; rw [c0 11 (Or.inr (Or.inr (Or.inr rfl))), h]; rfl
  unfold rI itC
  simp only [if_neg h0, if_neg h1, if_neg h2, if_neg h3, if_neg h4, if_neg h5, if_neg h6, if_neg h7, if_neg h8, if_neg h9, if_neg h10, if_neg h11]
theorem RNV.no {σ : MS} {w : Int64} {q : Int} (r : RBY σ w q) (h : q = -1) : RNV σ w 0 := Or.inr ⟨fun z => by obtain ⟨j, z⟩ := z; exact r.2 h j z.1 z.2.1 z.2.2.1, rfl⟩
theorem RNV.inn {σ : MS} {w : Int64} {q : Int} (r : RBY σ w q) (h : 0 ≤ q) (h1 : q < σ.1 43) (h6 : q < 6) : RNV σ w q := Or.inl ⟨q, ⟨h, h1, r.1 h⟩, (if_pos h6).symm⟩
theorem RNV.out {σ : MS} {w : Int64} {q : Int} (r : RBY σ w q) (h : 0 ≤ q) (h1 : q < σ.1 43) (h6 : ¬ q < 6) : RNV σ w 0 := Or.inl ⟨q, ⟨h, h1, r.1 h⟩, (if_neg h6).symm⟩
theorem RNV.fr {ss ks js : List Nat} {σ τ : MS} {w : Int64} {v : Int} (h : RNV τ w v) (f : Fr ss ks js σ τ) (h1 : 43 ∉ ss) (h2 : 44 ∉ js) : RNV σ w v := by
  unfold RNV RFD at *
  rw [f.1 43 h1, f.2.2 44 h2] at h
  exact h
theorem TS.putc {kn v y : Int} {as : List (Int × Int)} {μ : MS} {X : List ME} {k0 : Nat} {n m p : Int} {w : Int64} {σ τ υ : MS} {rest : List Nat} {lg : List EV} (t : TS k0 n σ (38 :: rest) τ (fun c => (w, m, p, 0, c)) lg ((9, kn, y, as) :: X)) (f : Fr [26, 27, 34] [3, 4, 5, 6, 7, 8] [] τ υ) (pb : PBF τ υ) (e : υ.1 34 = τ.1 34 + 2) (hn : 2 ≤ n) (hrd : RDY σ) (p2 : τ.1 25 = 2 → υ.1 26 = 0 → E2 τ (1, m, w)) (hs : srt υ = srt (clP w p m τ)) (hv : RNV τ w v) (p1 : PIT τ μ (itC kn v as)) (f1 : Fr [26, 27, 34] [3, 4, 5, 6, 7, 8] [] τ μ) (p3 : PIT μ υ (bndI kn)) (f3 : Fr [34] [3, 4, 5, 6, 7, 8] [] μ υ) : TS k0 (n - 2) σ rest υ qq (lg ++ [(1, m, w)]) X := by
  have pc : PBC (-2) τ υ := by
    unfold PBC
    rw [f.1 19 (by decide), f.1 31 (by decide), f.1 32 (by decide), f.1 33 (by decide), e]
    omega
  have pc2 : PBC (n - 2) σ υ := t.2.1.trans pc
  have pp := t.1.trans pb
  have hr : RDY υ := RDY.of hrd ⟨pp.2.2.2.2.2.2.1, pp.2.2.2.2.2.2.2⟩ (by
    unfold TOK
    rw [f.1 19 (by decide), f.1 20 (by decide), f.1 21 (by decide), f.1 22 (by decide), f.1 23 (by decide)]
    exact t.2.2.1.1) pc2 (by omega)
  have hp : P2F τ υ [(1, m, w)] := fun a b e he => by
    rw [List.mem_singleton.mp he]
    exact p2 a b
  refine t.goE pb pc hr (TBm.of f (by decide) (by decide) (by decide) (by decide)) hp (u38 ?_ ?_ (sv_fr f (by decide) (by decide)) (EFF.call hs) hv p1 f1 nfr26 p3 f3 nfr34 (f.1 33 (by decide)))
  · unfold tks
    rw [f.1 19 (by decide), f.1 20 (by decide), f.1 22 (by decide), f.1 23 (by decide), f.2.2 24 (by decide)]
  · unfold xs
    rw [f.1 28 (by decide), f.1 29 (by decide), e]
theorem RBY.rfd {σ : MS} {w : Int64} {v : Int} (h : RBY σ w v) (h0 : 0 ≤ v) (h1 : v < σ.1 43) : RFD σ w v := ⟨h0, h1, h.1 h0⟩
theorem RFD.rby {σ : MS} {w : Int64} {v : Int} (h : RFD σ w v) : RBY σ w v := ⟨fun _ => h.2.2, fun e => absurd h.1 (by omega)⟩
theorem clP_none {σ : MS} {w : Int64} {p m v : Int} (h2 : σ.1 25 = 2) (r : RBY σ w v) (hv : v = -1) : clP w p m σ = ntP 3 p σ := by
  unfold clP
  rw [ifP_t h2, ifP_f (fun z => by obtain ⟨q, z⟩ := z; exact r.2 hv q z.1 z.2.1 z.2.2.1)]
theorem clP_bad {σ : MS} {w : Int64} {p m v : Int} (h2 : σ.1 25 = 2) (r : RBY σ w v) (hv : 0 ≤ v) (h43 : v < σ.1 43) (hm : m ≠ σ.2.1 45 v) : clP w p m σ = ntP 4 p σ := by
  unfold clP
  rw [ifP_t h2, ifP_t ⟨v, r.rfd hv h43⟩, ifP_t ⟨v, r.rfd hv h43, hm⟩]
theorem clP_ok {σ : MS} {w : Int64} {p m v : Int} (r : RBY σ w v) (hv : 0 ≤ v) (h43 : v < σ.1 43) (hm : m = σ.2.1 45 v) : clP w p m σ = σ := by
  unfold clP
  by_cases h2 : σ.1 25 = 2
  · rw [ifP_t h2, ifP_t ⟨v, r.rfd hv h43⟩, ifP_f (fun z => by
      obtain ⟨q, z1, z2⟩ := z
      have e := z1.rby.one r z1.1 hv
      rw [e] at z2
      exact z2 hm)]
  · rw [ifP_f h2]
theorem clP_off {σ : MS} {w : Int64} {p m : Int} (h2 : ¬ σ.1 25 = 2) : clP w p m σ = σ := by unfold clP; rw [ifP_f h2]
theorem E3.rby {σ : MS} {w : Int64} {m q : Int} (h : E3 σ (1, m, w)) (r : RBY σ w q) (hq : -1 ≤ q ∧ q < σ.1 43) : (0 ≤ q ∧ q < 6) ∧ σ.2.1 11 q = m := by
  obtain ⟨v, a, b, c, d⟩ := h.2 rfl
  by_cases z : q = -1
  · exact absurd (c.1 a.1).1 (r.2 z v a.1 a.2)
  · have e := r.one c (by omega) a.1
    rw [e]
    exact ⟨⟨a.1, b⟩, d⟩
end
