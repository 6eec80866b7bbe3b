theorem ml12_317 : Cond.methodLink RX12 317 yX12_signed ∈ pWW := pw8 (List.mem_of_getElem? (i := 229) rfl) rfl
theorem dX12_product_9 : decode cX12_product 9 = .ok (.aload_n 0, 1) := by decide +kernel
theorem dX12_product_10 : decode cX12_product 10 = .ok (.bipush 42, 2) := by decide +kernel
theorem dX12_product_12 : decode cX12_product 12 = .ok (.invokevirtual 258, 3) := by decide +kernel
theorem dX12_product_15 : decode cX12_product 15 = .ok (.ifCond .eq 44, 3) := by decide +kernel
theorem dX12_product_18 : decode cX12_product 18 = .ok (.aload_n 0, 1) := by decide +kernel
theorem dX12_product_19 : decode cX12_product 19 = .ok (.getfield 285, 3) := by decide +kernel
theorem dX12_product_22 : decode cX12_product 22 = .ok (.istore_n 2, 1) := by decide +kernel
theorem dX12_product_23 : decode cX12_product 23 = .ok (.aload_n 0, 1) := by decide +kernel
theorem dX12_product_24 : decode cX12_product 24 = .ok (.getfield 288, 3) := by decide +kernel
theorem dX12_product_27 : decode cX12_product 27 = .ok (.istore_n 3, 1) := by decide +kernel
theorem dX12_product_28 : decode cX12_product 28 = .ok (.aload_n 0, 1) := by decide +kernel
theorem dX12_product_29 : decode cX12_product 29 = .ok (.invokevirtual 265, 3) := by decide +kernel
theorem dX12_product_32 : decode cX12_product 32 = .ok (.aload_n 0, 1) := by decide +kernel
theorem dX12_product_33 : decode cX12_product 33 = .ok (.invokevirtual 317, 3) := by decide +kernel
theorem dX12_product_36 : decode cX12_product 36 = .ok (.istore_n 1, 1) := by decide +kernel
theorem dX12_product_37 : decode cX12_product 37 = .ok (.iload_n 1, 1) := by decide +kernel
theorem dX12_product_38 : decode cX12_product 38 = .ok (.ifCond .eq 18, 3) := by decide +kernel
theorem dX12_product_56 : decode cX12_product 56 = .ok (.goto (-51), 3) := by decide +kernel
theorem dX12_product_5 : decode cX12_product 5 = .ok (.iload_n 1, 1) := by decide +kernel
theorem dX12_product_6 : decode cX12_product 6 = .ok (.ifCond .eq 53, 3) := by decide +kernel
theorem dX12_product_41 : decode cX12_product 41 = .ok (.aload_n 0, 1) := by decide +kernel
theorem dX12_product_42 : decode cX12_product 42 = .ok (.iconst 3, 1) := by decide +kernel
theorem dX12_product_43 : decode cX12_product 43 = .ok (.iload_n 2, 1) := by decide +kernel
theorem dX12_product_44 : decode cX12_product 44 = .ok (.iload_n 3, 1) := by decide +kernel
theorem dX12_product_45 : decode cX12_product 45 = .ok (.aload_n 0, 1) := by decide +kernel
theorem dX12_product_46 : decode cX12_product 46 = .ok (.getfield 285, 3) := by decide +kernel
theorem dX12_product_49 : decode cX12_product 49 = .ok (.aload_n 0, 1) := by decide +kernel
theorem dX12_product_50 : decode cX12_product 50 = .ok (.getfield 288, 3) := by decide +kernel
theorem dX12_product_53 : decode cX12_product 53 = .ok (.invokevirtual 310, 3) := by decide +kernel
set_option maxHeartbeats 4000000 in
set_option maxRecDepth 20000 in
theorem l_rd_prod (d : Nat) {b : Nat} {σ0 : MS} {lv : Nat} {post : Option Value → MS → Prop} (hce : ∀ (d : Nat) {b : Nat} {σ : MS} (hR : RG σ) (hrd : RDY σ) (hnn : NN σ) (h28 : σ.1 28 = 8 - (lv : Int)), Tm (d + 4 * lv + 8) m_X12_expression 0 b σ [(0, .ref b)] [] (fun ro σ2 => ∃ v : Int, ro = some (.int (iI v)) ∧ ((v = 0 ∨ v = 1)) ∧ (Fr [19, 20, 22, 23, 26, 27, 28, 32, 34, 39, 40] [3, 4, 5, 6, 7, 8, 35] [24, 38] σ σ2) ∧ (RG σ2) ∧ (PBF σ σ2) ∧ (Im v 1 (EXS σ σ2)) ∧ (PRS 2 v σ σ2) ∧ (σ2.1 28 = σ.1 28))) (hR0 : RG σ0) (hrd : RDY σ0) (hl28 : σ0.1 28 = 8 - (lv : Int)) (hx_59 : ∀ (a : Int) (σ : MS) , (Fr [19, 20, 22, 23, 26, 27, 28, 32, 34, 39, 40] [3, 4, 5, 6, 7, 8, 35] [24, 38] σ0 σ) → (RG σ) → (a = 0 ∨ a = 1) → ((a = 1 → TRm 9 0 σ0 [] σ ∧ GTm σ ∧ σ.1 28 = σ0.1 28)) → ((a = 0 → PBF σ0 σ ∧ ∀ q, GOF [9] σ0 q σ)) → (σ.1 28 = σ0.1 28) → Tm (d + 4 * lv + 10) m_X12_product 59 b σ [(1, .int (iI a)), (0, .ref b)] [] post) : ∀ (n : Nat) (a : Int) (σ : MS) , (Fr [19, 20, 22, 23, 26, 27, 28, 32, 34, 39, 40] [3, 4, 5, 6, 7, 8, 35] [24, 38] σ0 σ) → (RG σ) → (a = 1) → (TRm 9 0 σ0 [9] σ) → (GTm σ) → (σ.1 28 = σ0.1 28) → (1300 - σ.1 19).toNat = n → Tm (d + 4 * lv + 10) m_X12_product 9 b σ [(1, .int (iI a)), (0, .ref b)] [] post := by
  intro n
  induction n using Nat.strongRecOn with
  | _ n ih =>
    intro a σ hF hR h0 htr hgt h28s hm
    have tok0 := htr.2.2.1.1.1
    have tok2 := htr.2.2.1.1.2.1
    refine tm_aload_n dX12_product_9 rfl 1 rfl ?_
    refine tm_bipush dX12_product_10 (by decide) ?_
    refine tm_callV (M := m_X12_product) (pc := 12) (ix := 258) (M' := m_X12_isSign) (As := [.int (iI 42)]) (rest := []) dX12_product_12 ok_X12_isSign im_X12_isSign se_X12_isSign ml12_258 np_X12_isSign rfl rfl (Nat.le_of_ble_eq_true rfl) (Nat.le_of_ble_eq_true rfl) rfl (c2_X12_isSign (d + 4 * lv + 8) (σ := σ) (c := 42) hR (by omega)) (fun r1 σ2 hp => ?_)
    obtain ⟨v3, rfl, rfl, f4, f5, f6⟩ := hp
    show Tm _ _ 15 b σ [(1, .int (iI a)), (0, .ref b)] [.int (iI v3)] _
    have i42 := f5
    have n42_ := f6
    refine tm_if_eq (tgt := 59) dX12_product_15 (by decide) ⟨by omega, by omega⟩ (fun h7 => ?_) (fun h7 => ?_)
    · exact tm_sub [0, 1] rfl (hx_59 (a) σ (Fr.rfl.trans (Fr.sub hF (by decide) (by decide) (by decide))) hR (by omega) (fun _ => ⟨htr.nxt (fun q => g9n (n42_ (by omega))), hgt, h28s⟩) (fun q => absurd q (by omega)) h28s)
    · refine tm_aload_n dX12_product_18 rfl 1 rfl ?_
      refine tm_getS (k := 39) (t := σ.1 39) dX12_product_19 (by decide) fl12_285 rfl (rfl) ?_
      have g8 := RG.s hR 39
      refine tm_istore_n (L' := [(2, .int (iI (σ.1 39))), (1, .int (iI a)), (0, .ref b)]) dX12_product_22 rfl (by decide) rfl ?_
      refine tm_aload_n dX12_product_23 rfl 2 rfl ?_
      refine tm_getS (k := 40) (t := σ.1 40) dX12_product_24 (by decide) fl12_288 rfl (rfl) ?_
      have g9 := RG.s hR 40
      refine tm_istore_n (L' := [(3, .int (iI (σ.1 40))), (2, .int (iI (σ.1 39))), (1, .int (iI a)), (0, .ref b)]) dX12_product_27 rfl (by decide) rfl ?_
      refine tm_aload_n dX12_product_28 rfl 3 rfl ?_
      refine tm_callV (M := m_X12_product) (pc := 29) (ix := 265) (M' := m_X12_advance) (As := []) (rest := []) dX12_product_29 ok_X12_advance im_X12_advance se_X12_advance ml12_265 np_X12_advance rfl rfl (Nat.le_of_ble_eq_true rfl) (Nat.le_of_ble_eq_true rfl) rfl (c_X12_advance (d + 4 * lv + 4) (σ := σ)  hR (by have z := htr.2.2.1.1.1; omega)) (fun r10 σ11 hp => ?_)
      obtain ⟨rfl, f13, f14, f15, f16, f17⟩ := hp
      show Tm _ _ 32 b σ11 [(3, .int (iI (σ.1 40))), (2, .int (iI (σ.1 39))), (1, .int (iI a)), (0, .ref b)] [] _
      have gt := hgt
      unfold GTm at gt
      have mm1 : σ.1 19 < σ11.1 19 := by have z := tok2 (by have z := (i42 (by omega)).1; omega); omega
      clear tok2
      have tr1 := htr.adv f14 f16 f17 (by have z := (i42 (by omega)).1; omega) (fun q => g9y (i42 (by omega)) f13)
      have e28a : σ11.1 28 = σ.1 28 := f14.1 28 (by decide)
      have m34a : σ11.1 34 = σ.1 34 := f14.1 34 (by decide)
      refine tm_aload_n dX12_product_32 rfl 3 rfl ?_
      refine tm_callV (M := m_X12_product) (pc := 33) (ix := 317) (M' := m_X12_signed) (As := []) (rest := []) dX12_product_33 ok_X12_signed im_X12_signed se_X12_signed ml12_317 np_X12_signed rfl rfl (Nat.le_of_ble_eq_true rfl) (Nat.le_of_ble_eq_true rfl) rfl (c_X12_signed (d) (σ := σ11)  hce f15 tr1.2.2.1 tr1.nn (by rw [e28a, h28s]; exact hl28)) (fun r18 σ19 hp => ?_)
      obtain ⟨v20, rfl, f21, f22, f23, f24, f25, f26, f27⟩ := hp
      show Tm _ _ 36 b σ19 [(3, .int (iI (σ.1 40))), (2, .int (iI (σ.1 39))), (1, .int (iI a)), (0, .ref b)] [.int (iI v20)] _
      have xp0 := f21
      have xp1 := f22
      have xp2 := f23
      have xp3 := f24
      have xp4 := f25
      have xp5 := f26
      have xp6 := f27
      refine tm_istore_n (L' := [(1, .int (iI v20)), (3, .int (iI (σ.1 40))), (2, .int (iI (σ.1 39))), (0, .ref b)]) dX12_product_36 rfl (by decide) rfl ?_
      refine tm_iload_n dX12_product_37 rfl 0 rfl ?_
      refine tm_if_eq (tgt := 56) dX12_product_38 (by decide) ⟨by omega, by omega⟩ (fun h28 => ?_) (fun h28 => ?_)
      · refine tm_goto (tgt := 5) dX12_product_56 (by decide) ?_
        refine tm_iload_n dX12_product_5 rfl 0 rfl ?_
        refine tm_if_eq (tgt := 59) dX12_product_6 (by decide) ⟨by omega, by omega⟩ (fun h29 => ?_) (fun h29 => ?_)
        · exact tm_sub [0, 3] rfl (hx_59 (v20) σ19 (((Fr.rfl.trans (Fr.sub hF (by decide) (by decide) (by decide))).trans (Fr.sub f14 (by decide) (by decide) (by decide))).trans (Fr.sub f22 (by decide) (by decide) (by decide))) f23 (by omega) (fun q => absurd q (by omega)) (fun _ => (tr1.fail xp3 (xp5.2 (by omega)))) (xp6.trans (e28a.trans h28s)))
        · exact absurd h29 (by omega)
      · have tr2 := tr1.sub xp3 (xp4 (by omega)) (xp5.1 (by omega))
        have gt2 := (xp4 (by omega)).2.2.1
        have mm2 := (xp4 (by omega)).2.1.1
        have m34b := xp3.2.2.2.2.2.1
        have e28b := (xp4 (by omega)).2.2.2.2
        have rdj := tr2.2.2.1.2
        have tkj := tr2.2.2.1.1.1
        have gt := gt2
        refine tm_aload_n dX12_product_41 rfl 3 rfl ?_
        refine tm_iconst dX12_product_42 ?_
        refine tm_iload_n dX12_product_43 rfl 2 rfl ?_
        refine tm_iload_n dX12_product_44 rfl 1 rfl ?_
        refine tm_aload_n dX12_product_45 rfl 3 rfl ?_
        refine tm_getS (k := 39) (t := σ19.1 39) dX12_product_46 (by decide) fl12_285 rfl (rfl) ?_
        have g30 := RG.s f23 39
        refine tm_aload_n dX12_product_49 rfl 3 rfl ?_
        refine tm_getS (k := 40) (t := σ19.1 40) dX12_product_50 (by decide) fl12_288 rfl (rfl) ?_
        have g31 := RG.s f23 40
        refine tm_callV (M := m_X12_product) (pc := 53) (ix := 310) (M' := m_X12_joins) (As := [.int (iI 3), .int (iI (σ.1 39)), .int (iI (σ.1 40)), .int (iI (σ19.1 39)), .int (iI (σ19.1 40))]) (rest := []) dX12_product_53 ok_X12_joins im_X12_joins se_X12_joins ml12_310 np_X12_joins rfl rfl (Nat.le_of_ble_eq_true rfl) (Nat.le_of_ble_eq_true rfl) rfl (c_X12_joins (d + 4 * lv + 6) (σ := σ19) (k := 3) (ak := σ.1 39) (a := σ.1 40) (bk := σ19.1 39) (c := σ19.1 40) f23 (by omega) (by decide) (by omega) (by have z := gt; unfold GTm at z; omega) (by omega) (by omega) (by omega)) (fun r32 σ33 hp => ?_)
        obtain ⟨rfl, f35, f36, f37, f38, f39⟩ := hp
        show Tm _ _ 56 b σ33 [(1, .int (iI v20)), (3, .int (iI (σ.1 40))), (2, .int (iI (σ.1 39))), (0, .ref b)] [] _
        have tr3 := tr2.join f35 ⟨f37.1, f37.2.1⟩ f38 f39 (by decide) hrd
        have gtj : GTm σ33 := by unfold GTm; rw [f37.2.2.1, f37.2.2.2, f37.1]; exact ⟨Or.inr rfl, fun _ => by omega⟩
        have mm3 : σ33.1 19 = _ := f35.1 19 (by decide)
        have e28c : σ33.1 28 = σ0.1 28 := by rw [f35.1 28 (by decide), e28b, e28a]; exact h28s
        refine tm_goto (tgt := 5) dX12_product_56 (by decide) ?_
        refine tm_iload_n dX12_product_5 rfl 0 rfl ?_
        refine tm_if_eq (tgt := 59) dX12_product_6 (by decide) ⟨by omega, by omega⟩ (fun h40 => ?_) (fun h40 => ?_)
        · exact absurd h40 (by omega)
        · exact tm_sub [0, 3] rfl (ih _ (by omega) (v20) σ33 ((((Fr.rfl.trans (Fr.sub hF (by decide) (by decide) (by decide))).trans (Fr.sub f14 (by decide) (by decide) (by decide))).trans (Fr.sub f22 (by decide) (by decide) (by decide))).trans (Fr.sub f35 (by decide) (by decide) (by decide))) f36 (by omega) (tr3.le (by decide)) gtj e28c rfl)
theorem dX12_product_0 : decode cX12_product 0 = .ok (.aload_n 0, 1) := by decide +kernel
theorem dX12_product_1 : decode cX12_product 1 = .ok (.invokevirtual 317, 3) := by decide +kernel
theorem dX12_product_4 : decode cX12_product 4 = .ok (.istore_n 1, 1) := by decide +kernel
theorem dX12_product_59 : decode cX12_product 59 = .ok (.iload_n 1, 1) := by decide +kernel
theorem dX12_product_60 : decode cX12_product 60 = .ok (.ireturn, 1) := by decide +kernel
set_option maxHeartbeats 4000000 in
set_option maxRecDepth 20000 in
theorem c_X12_product (d : Nat) {b : Nat} {σ : MS} {lv : Nat} (hce : ∀ (d : Nat) {b : Nat} {σ : MS} (hR : RG σ) (hrd : RDY σ) (hnn : NN σ) (h28 : σ.1 28 = 8 - (lv : Int)), Tm (d + 4 * lv + 8) m_X12_expression 0 b σ [(0, .ref b)] [] (fun ro σ2 => ∃ v : Int, ro = some (.int (iI v)) ∧ ((v = 0 ∨ v = 1)) ∧ (Fr [19, 20, 22, 23, 26, 27, 28, 32, 34, 39, 40] [3, 4, 5, 6, 7, 8, 35] [24, 38] σ σ2) ∧ (RG σ2) ∧ (PBF σ σ2) ∧ (Im v 1 (EXS σ σ2)) ∧ (PRS 2 v σ σ2) ∧ (σ2.1 28 = σ.1 28))) (hR : RG σ) (hrd : RDY σ) (hnn : NN σ) (h28 : σ.1 28 = 8 - (lv : Int)) : Tm (d + 4 * lv + 10) m_X12_product 0 b σ [(0, .ref b)] [] (fun ro σ2 => ∃ v : Int, ro = some (.int (iI v)) ∧ ((v = 0 ∨ v = 1)) ∧ (Fr [19, 20, 22, 23, 26, 27, 28, 32, 34, 39, 40] [3, 4, 5, 6, 7, 8, 35] [24, 38] σ σ2) ∧ (RG σ2) ∧ (PBF σ σ2) ∧ (Im v 1 (EXS σ σ2)) ∧ (PRS 4 v σ σ2) ∧ (σ2.1 28 = σ.1 28)) := by
  have tr0 : TRm 4 0 σ [4] σ := TRm.start hrd hnn
  have tr1 := tr0.nxt (fun q => g4)
  refine tm_aload_n dX12_product_0 rfl 0 rfl ?_
  refine tm_callV (M := m_X12_product) (pc := 1) (ix := 317) (M' := m_X12_signed) (As := []) (rest := []) dX12_product_1 ok_X12_signed im_X12_signed se_X12_signed ml12_317 np_X12_signed rfl rfl (Nat.le_of_ble_eq_true rfl) (Nat.le_of_ble_eq_true rfl) rfl (c_X12_signed (d) (σ := σ)  hce hR hrd hnn h28) (fun r1 σ2 hp => ?_)
  obtain ⟨v3, rfl, f4, f5, f6, f7, f8, f9, f10⟩ := hp
  show Tm _ _ 4 b σ2 [(0, .ref b)] [.int (iI v3)] _
  have xp0 := f4
  have xp1 := f5
  have xp2 := f6
  have xp3 := f7
  have xp4 := f8
  have xp5 := f9
  have xp6 := f10
  refine tm_istore_n (L' := [(1, .int (iI v3)), (0, .ref b)]) dX12_product_4 rfl (by decide) rfl ?_
  refine tm_iload_n dX12_product_5 rfl 0 rfl ?_
  refine tm_if_eq (tgt := 59) dX12_product_6 (by decide) ⟨by omega, by omega⟩ (fun h11 => ?_) (fun h11 => ?_)
  · refine tm_iload_n dX12_product_59 rfl 0 rfl ?_
    exact tm_zret (v := v3) rfl (by omega) dX12_product_60 (⟨_, rfl, by omega, (Fr.rfl.trans (Fr.sub f5 (by decide) (by decide) (by decide))), f6, (tr1.fail xp3 (xp5.2 (by omega))).1, fun q => absurd q (by omega), by rw [show v3 = 0 by omega]; exact PRS.no (tr1.fail xp3 (xp5.2 (by omega))).2, xp6⟩)
  · have tr2 := tr1.sub xp3 (xp4 (by omega)) (xp5.1 (by omega))
    have e28z := (xp4 (by omega)).2.2.2.2
    refine tm_sub [0, 1] rfl (l_rd_prod (d) (σ0 := σ2) hce f6 tr2.2.2.1 ((xp4 (by omega)).2.2.2.2.trans h28) (fun a20 σ21 F14 R15 f16 f17 f18 f19 => ?_) _ (v3) σ2 Fr.rfl f6 (by omega) (TRm.start (xp4 (by omega)).1 xp3.2.2.1) (xp4 (by omega)).2.2.1 rfl rfl)
    show Tm _ _ 59 b σ21 [(1, .int (iI a20)), (0, .ref b)] [] _
    refine tm_iload_n dX12_product_59 rfl 0 rfl ?_
    exact tm_zret (v := a20) rfl (by omega) dX12_product_60 (⟨_, rfl, by omega, ((Fr.rfl.trans (Fr.sub f5 (by decide) (by decide) (by decide))).trans (Fr.sub F14 (by decide) (by decide) (by decide))), R15, (by rcases f16 with z | z; exact tr2.1.trans (f18 z).1; exact tr2.1.trans (f17 z).1.1), fun z => (tr2.cat (f17 z).1).exs (by decide) (f17 z).2.1 ((f17 z).2.2.trans e28z), ⟨fun z q => (tr2.cat (f17 z).1).2.2.2.2 q, fun z q => (tr2.2.2.2.2 q).fail (((f18 z).2 q).more [])⟩, f19.trans xp6⟩)
theorem ml12_314 : Cond.methodLink RX12 314 yX12_product ∈ pWW := pw8 (List.mem_of_getElem? (i := 225) rfl) rfl
theorem dX12_sum_9 : decode cX12_sum 9 = .ok (.aload_n 0, 1) := by decide +kernel
theorem dX12_sum_10 : decode cX12_sum 10 = .ok (.bipush 43, 2) := by decide +kernel
theorem dX12_sum_12 : decode cX12_sum 12 = .ok (.invokevirtual 258, 3) := by decide +kernel
theorem dX12_sum_15 : decode cX12_sum 15 = .ok (.ifCond .ne 12, 3) := by decide +kernel
theorem dX12_sum_27 : decode cX12_sum 27 = .ok (.aload_n 0, 1) := by decide +kernel
theorem dX12_sum_28 : decode cX12_sum 28 = .ok (.bipush 43, 2) := by decide +kernel
theorem dX12_sum_30 : decode cX12_sum 30 = .ok (.invokevirtual 258, 3) := by decide +kernel
theorem dX12_sum_33 : decode cX12_sum 33 = .ok (.ifCond .eq 7, 3) := by decide +kernel
theorem dX12_sum_40 : decode cX12_sum 40 = .ok (.iconst 2, 1) := by decide +kernel
theorem dX12_sum_41 : decode cX12_sum 41 = .ok (.istore_n 2, 1) := by decide +kernel
theorem dX12_sum_42 : decode cX12_sum 42 = .ok (.aload_n 0, 1) := by decide +kernel
theorem dX12_sum_43 : decode cX12_sum 43 = .ok (.getfield 285, 3) := by decide +kernel
theorem dX12_sum_46 : decode cX12_sum 46 = .ok (.istore_n 3, 1) := by decide +kernel
theorem dX12_sum_47 : decode cX12_sum 47 = .ok (.aload_n 0, 1) := by decide +kernel
theorem dX12_sum_48 : decode cX12_sum 48 = .ok (.getfield 288, 3) := by decide +kernel
theorem dX12_sum_51 : decode cX12_sum 51 = .ok (.istore 4, 2) := by decide +kernel
theorem dX12_sum_53 : decode cX12_sum 53 = .ok (.aload_n 0, 1) := by decide +kernel
theorem dX12_sum_54 : decode cX12_sum 54 = .ok (.invokevirtual 265, 3) := by decide +kernel
theorem dX12_sum_57 : decode cX12_sum 57 = .ok (.aload_n 0, 1) := by decide +kernel
theorem dX12_sum_58 : decode cX12_sum 58 = .ok (.invokevirtual 314, 3) := by decide +kernel
theorem dX12_sum_61 : decode cX12_sum 61 = .ok (.istore_n 1, 1) := by decide +kernel
theorem dX12_sum_62 : decode cX12_sum 62 = .ok (.iload_n 1, 1) := by decide +kernel
theorem dX12_sum_63 : decode cX12_sum 63 = .ok (.ifCond .eq 19, 3) := by decide +kernel
theorem dX12_sum_82 : decode cX12_sum 82 = .ok (.goto (-77), 3) := by decide +kernel
theorem dX12_sum_5 : decode cX12_sum 5 = .ok (.iload_n 1, 1) := by decide +kernel
theorem dX12_sum_6 : decode cX12_sum 6 = .ok (.ifCond .eq 79, 3) := by decide +kernel
theorem dX12_sum_66 : decode cX12_sum 66 = .ok (.aload_n 0, 1) := by decide +kernel
theorem dX12_sum_67 : decode cX12_sum 67 = .ok (.iload_n 2, 1) := by decide +kernel
theorem dX12_sum_68 : decode cX12_sum 68 = .ok (.iload_n 3, 1) := by decide +kernel
theorem dX12_sum_69 : decode cX12_sum 69 = .ok (.iload 4, 2) := by decide +kernel
theorem dX12_sum_71 : decode cX12_sum 71 = .ok (.aload_n 0, 1) := by decide +kernel
theorem dX12_sum_72 : decode cX12_sum 72 = .ok (.getfield 285, 3) := by decide +kernel
theorem dX12_sum_75 : decode cX12_sum 75 = .ok (.aload_n 0, 1) := by decide +kernel
theorem dX12_sum_76 : decode cX12_sum 76 = .ok (.getfield 288, 3) := by decide +kernel
theorem dX12_sum_79 : decode cX12_sum 79 = .ok (.invokevirtual 310, 3) := by decide +kernel
theorem dX12_sum_36 : decode cX12_sum 36 = .ok (.iconst 1, 1) := by decide +kernel
theorem dX12_sum_37 : decode cX12_sum 37 = .ok (.goto 4, 3) := by decide +kernel
theorem dX12_sum_18 : decode cX12_sum 18 = .ok (.aload_n 0, 1) := by decide +kernel
theorem dX12_sum_19 : decode cX12_sum 19 = .ok (.bipush 45, 2) := by decide +kernel
theorem dX12_sum_21 : decode cX12_sum 21 = .ok (.invokevirtual 258, 3) := by decide +kernel
theorem dX12_sum_24 : decode cX12_sum 24 = .ok (.ifCond .eq 61, 3) := by decide +kernel
set_option maxHeartbeats 4000000 in
set_option maxRecDepth 20000 in
theorem l_rd_sum (d : Nat) {b : Nat} {σ0 : MS} {lv : Nat} {post : Option Value → MS → Prop} (hce : ∀ (d : Nat) {b : Nat} {σ : MS} (hR : RG σ) (hrd : RDY σ) (hnn : NN σ) (h28 : σ.1 28 = 8 - (lv : Int)), Tm (d + 4 * lv + 8) m_X12_expression 0 b σ [(0, .ref b)] [] (fun ro σ2 => ∃ v : Int, ro = some (.int (iI v)) ∧ ((v = 0 ∨ v = 1)) ∧ (Fr [19, 20, 22, 23, 26, 27, 28, 32, 34, 39, 40] [3, 4, 5, 6, 7, 8, 35] [24, 38] σ σ2) ∧ (RG σ2) ∧ (PBF σ σ2) ∧ (Im v 1 (EXS σ σ2)) ∧ (PRS 2 v σ σ2) ∧ (σ2.1 28 = σ.1 28))) (hR0 : RG σ0) (hrd : RDY σ0) (hl28 : σ0.1 28 = 8 - (lv : Int)) (hx_85 : ∀ (a : Int) (σ : MS) , (Fr [19, 20, 22, 23, 26, 27, 28, 32, 34, 39, 40] [3, 4, 5, 6, 7, 8, 35] [24, 38] σ0 σ) → (RG σ) → (a = 0 ∨ a = 1) → ((a = 1 → TRm 8 0 σ0 [] σ ∧ GTm σ ∧ σ.1 28 = σ0.1 28)) → ((a = 0 → PBF σ0 σ ∧ ∀ q, GOF [8] σ0 q σ)) → (σ.1 28 = σ0.1 28) → Tm (d + 4 * lv + 11) m_X12_sum 85 b σ [(1, .int (iI a)), (0, .ref b)] [] post) : ∀ (n : Nat) (a : Int) (σ : MS) , (Fr [19, 20, 22, 23, 26, 27, 28, 32, 34, 39, 40] [3, 4, 5, 6, 7, 8, 35] [24, 38] σ0 σ) → (RG σ) → (a = 1) → (TRm 8 0 σ0 [8] σ) → (GTm σ) → (σ.1 28 = σ0.1 28) → (1300 - σ.1 19).toNat = n → Tm (d + 4 * lv + 11) m_X12_sum 9 b σ [(1, .int (iI a)), (0, .ref b)] [] post := by
  intro n
  induction n using Nat.strongRecOn with
  | _ n ih =>
    intro a σ hF hR h0 htr hgt h28s hm
    have tok0 := htr.2.2.1.1.1
    have tok2 := htr.2.2.1.1.2.1
    refine tm_aload_n dX12_sum_9 rfl 1 rfl ?_
    refine tm_bipush dX12_sum_10 (by decide) ?_
    refine tm_callV (M := m_X12_sum) (pc := 12) (ix := 258) (M' := m_X12_isSign) (As := [.int (iI 43)]) (rest := []) dX12_sum_12 ok_X12_isSign im_X12_isSign se_X12_isSign ml12_258 np_X12_isSign rfl rfl (Nat.le_of_ble_eq_true rfl) (Nat.le_of_ble_eq_true rfl) rfl (c2_X12_isSign (d + 4 * lv + 9) (σ := σ) (c := 43) hR (by omega)) (fun r1 σ2 hp => ?_)
    obtain ⟨v3, rfl, rfl, f4, f5, f6⟩ := hp
    show Tm _ _ 15 b σ [(1, .int (iI a)), (0, .ref b)] [.int (iI v3)] _
    have i43 := f5
    have n43_ := f6
    refine tm_if_ne (tgt := 27) dX12_sum_15 (by decide) ⟨by omega, by omega⟩ (fun h7 => ?_) (fun h7 => ?_)
    · refine tm_aload_n dX12_sum_27 rfl 1 rfl ?_
      refine tm_bipush dX12_sum_28 (by decide) ?_
      refine tm_callV (M := m_X12_sum) (pc := 30) (ix := 258) (M' := m_X12_isSign) (As := [.int (iI 43)]) (rest := []) dX12_sum_30 ok_X12_isSign im_X12_isSign se_X12_isSign ml12_258 np_X12_isSign rfl rfl (Nat.le_of_ble_eq_true rfl) (Nat.le_of_ble_eq_true rfl) rfl (c2_X12_isSign (d + 4 * lv + 9) (σ := σ) (c := 43) hR (by omega)) (fun r8 σ9 hp => ?_)
      obtain ⟨v10, rfl, rfl, f11, f12, f13⟩ := hp
      show Tm _ _ 33 b σ [(1, .int (iI a)), (0, .ref b)] [.int (iI v10)] _
      have i43b := f12
      have n43b_ := f13
      refine tm_if_eq (tgt := 40) dX12_sum_33 (by decide) ⟨by omega, by omega⟩ (fun h14 => ?_) (fun h14 => ?_)
      · refine tm_iconst dX12_sum_40 ?_
        refine tm_istore_n (L' := [(2, .int (iI 2)), (1, .int (iI a)), (0, .ref b)]) dX12_sum_41 rfl (by decide) rfl ?_
        refine tm_aload_n dX12_sum_42 rfl 2 rfl ?_
        refine tm_getS (k := 39) (t := σ.1 39) dX12_sum_43 (by decide) fl12_285 rfl (rfl) ?_
        have g15 := RG.s hR 39
        refine tm_istore_n (L' := [(3, .int (iI (σ.1 39))), (2, .int (iI 2)), (1, .int (iI a)), (0, .ref b)]) dX12_sum_46 rfl (by decide) rfl ?_
        refine tm_aload_n dX12_sum_47 rfl 3 rfl ?_
        refine tm_getS (k := 40) (t := σ.1 40) dX12_sum_48 (by decide) fl12_288 rfl (rfl) ?_
        have g16 := RG.s hR 40
        refine tm_istore (L' := [(4, .int (iI (σ.1 40))), (3, .int (iI (σ.1 39))), (2, .int (iI 2)), (1, .int (iI a)), (0, .ref b)]) dX12_sum_51 (by decide) rfl ?_
        refine tm_aload_n dX12_sum_53 rfl 4 rfl ?_
        refine tm_callV (M := m_X12_sum) (pc := 54) (ix := 265) (M' := m_X12_advance) (As := []) (rest := []) dX12_sum_54 ok_X12_advance im_X12_advance se_X12_advance ml12_265 np_X12_advance rfl rfl (Nat.le_of_ble_eq_true rfl) (Nat.le_of_ble_eq_true rfl) rfl (c_X12_advance (d + 4 * lv + 5) (σ := σ)  hR (by have z := htr.2.2.1.1.1; omega)) (fun r17 σ18 hp => ?_)
        obtain ⟨rfl, f20, f21, f22, f23, f24⟩ := hp
        show Tm _ _ 57 b σ18 [(4, .int (iI (σ.1 40))), (3, .int (iI (σ.1 39))), (2, .int (iI 2)), (1, .int (iI a)), (0, .ref b)] [] _
        have gt := hgt
        unfold GTm at gt
        have mm1 : σ.1 19 < σ18.1 19 := by have z := tok2 (by first | (have z := (i43 (by omega)).1; omega) | (have z := (i45 (by omega)).1; omega)); omega
        clear tok2
        have tr1 := htr.adv f21 f23 f24 (by first | (have z := (i43 (by omega)).1; omega) | (have z := (i45 (by omega)).1; omega)) (fun q => g8y (by first | exact Or.inl (i43 (by omega)) | exact Or.inr (i45 (by omega))) f20)
        have e28a : σ18.1 28 = σ.1 28 := f21.1 28 (by decide)
        have m34a : σ18.1 34 = σ.1 34 := f21.1 34 (by decide)
        refine tm_aload_n dX12_sum_57 rfl 4 rfl ?_
        refine tm_callV (M := m_X12_sum) (pc := 58) (ix := 314) (M' := m_X12_product) (As := []) (rest := []) dX12_sum_58 ok_X12_product im_X12_product se_X12_product ml12_314 np_X12_product rfl rfl (Nat.le_of_ble_eq_true rfl) (Nat.le_of_ble_eq_true rfl) rfl (c_X12_product (d) (σ := σ18)  hce f22 tr1.2.2.1 tr1.nn (by rw [e28a, h28s]; exact hl28)) (fun r25 σ26 hp => ?_)
        obtain ⟨v27, rfl, f28, f29, f30, f31, f32, f33, f34⟩ := hp
        show Tm _ _ 61 b σ26 [(4, .int (iI (σ.1 40))), (3, .int (iI (σ.1 39))), (2, .int (iI 2)), (1, .int (iI a)), (0, .ref b)] [.int (iI v27)] _
        have xp0 := f28
        have xp1 := f29
        have xp2 := f30
        have xp3 := f31
        have xp4 := f32
        have xp5 := f33
        have xp6 := f34
        refine tm_istore_n (L' := [(1, .int (iI v27)), (4, .int (iI (σ.1 40))), (3, .int (iI (σ.1 39))), (2, .int (iI 2)), (0, .ref b)]) dX12_sum_61 rfl (by decide) rfl ?_
        refine tm_iload_n dX12_sum_62 rfl 0 rfl ?_
        refine tm_if_eq (tgt := 82) dX12_sum_63 (by decide) ⟨by omega, by omega⟩ (fun h35 => ?_) (fun h35 => ?_)
        · refine tm_goto (tgt := 5) dX12_sum_82 (by decide) ?_
          refine tm_iload_n dX12_sum_5 rfl 0 rfl ?_
          refine tm_if_eq (tgt := 85) dX12_sum_6 (by decide) ⟨by omega, by omega⟩ (fun h36 => ?_) (fun h36 => ?_)
          · exact tm_sub [0, 4] rfl (hx_85 (v27) σ26 (((Fr.rfl.trans (Fr.sub hF (by decide) (by decide) (by decide))).trans (Fr.sub f21 (by decide) (by decide) (by decide))).trans (Fr.sub f29 (by decide) (by decide) (by decide))) f30 (by omega) (fun q => absurd q (by omega)) (fun _ => (tr1.fail xp3 (xp5.2 (by omega)))) (xp6.trans (e28a.trans h28s)))
          · exact absurd h36 (by omega)
        · have tr2 := tr1.sub xp3 (xp4 (by omega)) (xp5.1 (by omega))
          have gt2 := (xp4 (by omega)).2.2.1
          have mm2 := (xp4 (by omega)).2.1.1
          have m34b := xp3.2.2.2.2.2.1
          have e28b := (xp4 (by omega)).2.2.2.2
          have rdj := tr2.2.2.1.2
          have tkj := tr2.2.2.1.1.1
          have gt := gt2
          refine tm_aload_n dX12_sum_66 rfl 4 rfl ?_
          refine tm_iload_n dX12_sum_67 rfl 3 rfl ?_
          refine tm_iload_n dX12_sum_68 rfl 2 rfl ?_
          refine tm_iload dX12_sum_69 1 rfl ?_
          refine tm_aload_n dX12_sum_71 rfl 4 rfl ?_
          refine tm_getS (k := 39) (t := σ26.1 39) dX12_sum_72 (by decide) fl12_285 rfl (rfl) ?_
          have g37 := RG.s f30 39
          refine tm_aload_n dX12_sum_75 rfl 4 rfl ?_
          refine tm_getS (k := 40) (t := σ26.1 40) dX12_sum_76 (by decide) fl12_288 rfl (rfl) ?_
          have g38 := RG.s f30 40
          refine tm_callV (M := m_X12_sum) (pc := 79) (ix := 310) (M' := m_X12_joins) (As := [.int (iI 2), .int (iI (σ.1 39)), .int (iI (σ.1 40)), .int (iI (σ26.1 39)), .int (iI (σ26.1 40))]) (rest := []) dX12_sum_79 ok_X12_joins im_X12_joins se_X12_joins ml12_310 np_X12_joins rfl rfl (Nat.le_of_ble_eq_true rfl) (Nat.le_of_ble_eq_true rfl) rfl (c_X12_joins (d + 4 * lv + 7) (σ := σ26) (k := 2) (ak := σ.1 39) (a := σ.1 40) (bk := σ26.1 39) (c := σ26.1 40) f30 (by omega) (by decide) (by omega) (by have z := gt; unfold GTm at z; omega) (by omega) (by omega) (by omega)) (fun r39 σ40 hp => ?_)
          obtain ⟨rfl, f42, f43, f44, f45, f46⟩ := hp
          show Tm _ _ 82 b σ40 [(1, .int (iI v27)), (4, .int (iI (σ.1 40))), (3, .int (iI (σ.1 39))), (2, .int (iI 2)), (0, .ref b)] [] _
          have tr3 := tr2.join f42 ⟨f44.1, f44.2.1⟩ f45 f46 (by decide) hrd
          have gtj : GTm σ40 := by unfold GTm; rw [f44.2.2.1, f44.2.2.2, f44.1]; exact ⟨Or.inr rfl, fun _ => by omega⟩
          have mm3 : σ40.1 19 = _ := f42.1 19 (by decide)
          have e28c : σ40.1 28 = σ0.1 28 := by rw [f42.1 28 (by decide), e28b, e28a]; exact h28s
          refine tm_goto (tgt := 5) dX12_sum_82 (by decide) ?_
          refine tm_iload_n dX12_sum_5 rfl 0 rfl ?_
          refine tm_if_eq (tgt := 85) dX12_sum_6 (by decide) ⟨by omega, by omega⟩ (fun h47 => ?_) (fun h47 => ?_)
          · exact absurd h47 (by omega)
          · exact tm_sub [0, 4] rfl (ih _ (by omega) (v27) σ40 ((((Fr.rfl.trans (Fr.sub hF (by decide) (by decide) (by decide))).trans (Fr.sub f21 (by decide) (by decide) (by decide))).trans (Fr.sub f29 (by decide) (by decide) (by decide))).trans (Fr.sub f42 (by decide) (by decide) (by decide))) f43 (by omega) (tr3.le (by decide)) gtj e28c rfl)
      · refine tm_iconst dX12_sum_36 ?_
        refine tm_goto (tgt := 41) dX12_sum_37 (by decide) ?_
        refine tm_istore_n (L' := [(2, .int (iI 1)), (1, .int (iI a)), (0, .ref b)]) dX12_sum_41 rfl (by decide) rfl ?_
        refine tm_aload_n dX12_sum_42 rfl 2 rfl ?_
        refine tm_getS (k := 39) (t := σ.1 39) dX12_sum_43 (by decide) fl12_285 rfl (rfl) ?_
        have g48 := RG.s hR 39
        refine tm_istore_n (L' := [(3, .int (iI (σ.1 39))), (2, .int (iI 1)), (1, .int (iI a)), (0, .ref b)]) dX12_sum_46 rfl (by decide) rfl ?_
        refine tm_aload_n dX12_sum_47 rfl 3 rfl ?_
        refine tm_getS (k := 40) (t := σ.1 40) dX12_sum_48 (by decide) fl12_288 rfl (rfl) ?_
        have g49 := RG.s hR 40
        refine tm_istore (L' := [(4, .int (iI (σ.1 40))), (3, .int (iI (σ.1 39))), (2, .int (iI 1)), (1, .int (iI a)), (0, .ref b)]) dX12_sum_51 (by decide) rfl ?_
        refine tm_aload_n dX12_sum_53 rfl 4 rfl ?_
        refine tm_callV (M := m_X12_sum) (pc := 54) (ix := 265) (M' := m_X12_advance) (As := []) (rest := []) dX12_sum_54 ok_X12_advance im_X12_advance se_X12_advance ml12_265 np_X12_advance rfl rfl (Nat.le_of_ble_eq_true rfl) (Nat.le_of_ble_eq_true rfl) rfl (c_X12_advance (d + 4 * lv + 5) (σ := σ)  hR (by have z := htr.2.2.1.1.1; omega)) (fun r50 σ51 hp => ?_)
        obtain ⟨rfl, f53, f54, f55, f56, f57⟩ := hp
        show Tm _ _ 57 b σ51 [(4, .int (iI (σ.1 40))), (3, .int (iI (σ.1 39))), (2, .int (iI 1)), (1, .int (iI a)), (0, .ref b)] [] _
        have gt := hgt
        unfold GTm at gt
        have mm1 : σ.1 19 < σ51.1 19 := by have z := tok2 (by first | (have z := (i43 (by omega)).1; omega) | (have z := (i45 (by omega)).1; omega)); omega
        clear tok2
        have tr4 := htr.adv f54 f56 f57 (by first | (have z := (i43 (by omega)).1; omega) | (have z := (i45 (by omega)).1; omega)) (fun q => g8y (by first | exact Or.inl (i43 (by omega)) | exact Or.inr (i45 (by omega))) f53)
        have e28a : σ51.1 28 = σ.1 28 := f54.1 28 (by decide)
        have m34a : σ51.1 34 = σ.1 34 := f54.1 34 (by decide)
        refine tm_aload_n dX12_sum_57 rfl 4 rfl ?_
        refine tm_callV (M := m_X12_sum) (pc := 58) (ix := 314) (M' := m_X12_product) (As := []) (rest := []) dX12_sum_58 ok_X12_product im_X12_product se_X12_product ml12_314 np_X12_product rfl rfl (Nat.le_of_ble_eq_true rfl) (Nat.le_of_ble_eq_true rfl) rfl (c_X12_product (d) (σ := σ51)  hce f55 tr4.2.2.1 tr4.nn (by rw [e28a, h28s]; exact hl28)) (fun r58 σ59 hp => ?_)
        obtain ⟨v60, rfl, f61, f62, f63, f64, f65, f66, f67⟩ := hp
        show Tm _ _ 61 b σ59 [(4, .int (iI (σ.1 40))), (3, .int (iI (σ.1 39))), (2, .int (iI 1)), (1, .int (iI a)), (0, .ref b)] [.int (iI v60)] _
        have xp0 := f61
        have xp1 := f62
        have xp2 := f63
        have xp3 := f64
        have xp4 := f65
        have xp5 := f66
        have xp6 := f67
        refine tm_istore_n (L' := [(1, .int (iI v60)), (4, .int (iI (σ.1 40))), (3, .int (iI (σ.1 39))), (2, .int (iI 1)), (0, .ref b)]) dX12_sum_61 rfl (by decide) rfl ?_
        refine tm_iload_n dX12_sum_62 rfl 0 rfl ?_
        refine tm_if_eq (tgt := 82) dX12_sum_63 (by decide) ⟨by omega, by omega⟩ (fun h68 => ?_) (fun h68 => ?_)
        · refine tm_goto (tgt := 5) dX12_sum_82 (by decide) ?_
          refine tm_iload_n dX12_sum_5 rfl 0 rfl ?_
          refine tm_if_eq (tgt := 85) dX12_sum_6 (by decide) ⟨by omega, by omega⟩ (fun h69 => ?_) (fun h69 => ?_)
          · exact tm_sub [0, 4] rfl (hx_85 (v60) σ59 (((Fr.rfl.trans (Fr.sub hF (by decide) (by decide) (by decide))).trans (Fr.sub f54 (by decide) (by decide) (by decide))).trans (Fr.sub f62 (by decide) (by decide) (by decide))) f63 (by omega) (fun q => absurd q (by omega)) (fun _ => (tr4.fail xp3 (xp5.2 (by omega)))) (xp6.trans (e28a.trans h28s)))
          · exact absurd h69 (by omega)
        · have tr5 := tr4.sub xp3 (xp4 (by omega)) (xp5.1 (by omega))
          have gt2 := (xp4 (by omega)).2.2.1
          have mm2 := (xp4 (by omega)).2.1.1
          have m34b := xp3.2.2.2.2.2.1
          have e28b := (xp4 (by omega)).2.2.2.2
          have rdj := tr5.2.2.1.2
          have tkj := tr5.2.2.1.1.1
          have gt := gt2
          refine tm_aload_n dX12_sum_66 rfl 4 rfl ?_
          refine tm_iload_n dX12_sum_67 rfl 3 rfl ?_
          refine tm_iload_n dX12_sum_68 rfl 2 rfl ?_
          refine tm_iload dX12_sum_69 1 rfl ?_
          refine tm_aload_n dX12_sum_71 rfl 4 rfl ?_
          refine tm_getS (k := 39) (t := σ59.1 39) dX12_sum_72 (by decide) fl12_285 rfl (rfl) ?_
          have g70 := RG.s f63 39
          refine tm_aload_n dX12_sum_75 rfl 4 rfl ?_
          refine tm_getS (k := 40) (t := σ59.1 40) dX12_sum_76 (by decide) fl12_288 rfl (rfl) ?_
          have g71 := RG.s f63 40
          refine tm_callV (M := m_X12_sum) (pc := 79) (ix := 310) (M' := m_X12_joins) (As := [.int (iI 1), .int (iI (σ.1 39)), .int (iI (σ.1 40)), .int (iI (σ59.1 39)), .int (iI (σ59.1 40))]) (rest := []) dX12_sum_79 ok_X12_joins im_X12_joins se_X12_joins ml12_310 np_X12_joins rfl rfl (Nat.le_of_ble_eq_true rfl) (Nat.le_of_ble_eq_true rfl) rfl (c_X12_joins (d + 4 * lv + 7) (σ := σ59) (k := 1) (ak := σ.1 39) (a := σ.1 40) (bk := σ59.1 39) (c := σ59.1 40) f63 (by omega) (by decide) (by omega) (by have z := gt; unfold GTm at z; omega) (by omega) (by omega) (by omega)) (fun r72 σ73 hp => ?_)
          obtain ⟨rfl, f75, f76, f77, f78, f79⟩ := hp
          show Tm _ _ 82 b σ73 [(1, .int (iI v60)), (4, .int (iI (σ.1 40))), (3, .int (iI (σ.1 39))), (2, .int (iI 1)), (0, .ref b)] [] _
          have tr6 := tr5.join f75 ⟨f77.1, f77.2.1⟩ f78 f79 (by decide) hrd
          have gtj : GTm σ73 := by unfold GTm; rw [f77.2.2.1, f77.2.2.2, f77.1]; exact ⟨Or.inr rfl, fun _ => by omega⟩
          have mm3 : σ73.1 19 = _ := f75.1 19 (by decide)
          have e28c : σ73.1 28 = σ0.1 28 := by rw [f75.1 28 (by decide), e28b, e28a]; exact h28s
          refine tm_goto (tgt := 5) dX12_sum_82 (by decide) ?_
          refine tm_iload_n dX12_sum_5 rfl 0 rfl ?_
          refine tm_if_eq (tgt := 85) dX12_sum_6 (by decide) ⟨by omega, by omega⟩ (fun h80 => ?_) (fun h80 => ?_)
          · exact absurd h80 (by omega)
          · exact tm_sub [0, 4] rfl (ih _ (by omega) (v60) σ73 ((((Fr.rfl.trans (Fr.sub hF (by decide) (by decide) (by decide))).trans (Fr.sub f54 (by decide) (by decide) (by decide))).trans (Fr.sub f62 (by decide) (by decide) (by decide))).trans (Fr.sub f75 (by decide) (by decide) (by decide))) f76 (by omega) (tr6.le (by decide)) gtj e28c rfl)
    · refine tm_aload_n dX12_sum_18 rfl 1 rfl ?_
      refine tm_bipush dX12_sum_19 (by decide) ?_
      refine tm_callV (M := m_X12_sum) (pc := 21) (ix := 258) (M' := m_X12_isSign) (As := [.int (iI 45)]) (rest := []) dX12_sum_21 ok_X12_isSign im_X12_isSign se_X12_isSign ml12_258 np_X12_isSign rfl rfl (Nat.le_of_ble_eq_true rfl) (Nat.le_of_ble_eq_true rfl) rfl (c2_X12_isSign (d + 4 * lv + 9) (σ := σ) (c := 45) hR (by omega)) (fun r81 σ82 hp => ?_)
      obtain ⟨v83, rfl, rfl, f84, f85, f86⟩ := hp
      show Tm _ _ 24 b σ [(1, .int (iI a)), (0, .ref b)] [.int (iI v83)] _
      have i45 := f85
      have n45_ := f86
      refine tm_if_eq (tgt := 85) dX12_sum_24 (by decide) ⟨by omega, by omega⟩ (fun h87 => ?_) (fun h87 => ?_)
      · exact tm_sub [0, 1] rfl (hx_85 (a) σ (Fr.rfl.trans (Fr.sub hF (by decide) (by decide) (by decide))) hR (by omega) (fun _ => ⟨htr.nxt (fun q => g8n (n43_ (by omega)) (n45_ (by omega))), hgt, h28s⟩) (fun q => absurd q (by omega)) h28s)
      · refine tm_aload_n dX12_sum_27 rfl 1 rfl ?_
        refine tm_bipush dX12_sum_28 (by decide) ?_
        refine tm_callV (M := m_X12_sum) (pc := 30) (ix := 258) (M' := m_X12_isSign) (As := [.int (iI 43)]) (rest := []) dX12_sum_30 ok_X12_isSign im_X12_isSign se_X12_isSign ml12_258 np_X12_isSign rfl rfl (Nat.le_of_ble_eq_true rfl) (Nat.le_of_ble_eq_true rfl) rfl (c2_X12_isSign (d + 4 * lv + 9) (σ := σ) (c := 43) hR (by omega)) (fun r88 σ89 hp => ?_)
        obtain ⟨v90, rfl, rfl, f91, f92, f93⟩ := hp
        show Tm _ _ 33 b σ [(1, .int (iI a)), (0, .ref b)] [.int (iI v90)] _
        have i43b := f92
        have n43b_ := f93
        refine tm_if_eq (tgt := 40) dX12_sum_33 (by decide) ⟨by omega, by omega⟩ (fun h94 => ?_) (fun h94 => ?_)
        · refine tm_iconst dX12_sum_40 ?_
          refine tm_istore_n (L' := [(2, .int (iI 2)), (1, .int (iI a)), (0, .ref b)]) dX12_sum_41 rfl (by decide) rfl ?_
          refine tm_aload_n dX12_sum_42 rfl 2 rfl ?_
          refine tm_getS (k := 39) (t := σ.1 39) dX12_sum_43 (by decide) fl12_285 rfl (rfl) ?_
          have g95 := RG.s hR 39
          refine tm_istore_n (L' := [(3, .int (iI (σ.1 39))), (2, .int (iI 2)), (1, .int (iI a)), (0, .ref b)]) dX12_sum_46 rfl (by decide) rfl ?_
          refine tm_aload_n dX12_sum_47 rfl 3 rfl ?_
          refine tm_getS (k := 40) (t := σ.1 40) dX12_sum_48 (by decide) fl12_288 rfl (rfl) ?_
          have g96 := RG.s hR 40
          refine tm_istore (L' := [(4, .int (iI (σ.1 40))), (3, .int (iI (σ.1 39))), (2, .int (iI 2)), (1, .int (iI a)), (0, .ref b)]) dX12_sum_51 (by decide) rfl ?_
          refine tm_aload_n dX12_sum_53 rfl 4 rfl ?_
          refine tm_callV (M := m_X12_sum) (pc := 54) (ix := 265) (M' := m_X12_advance) (As := []) (rest := []) dX12_sum_54 ok_X12_advance im_X12_advance se_X12_advance ml12_265 np_X12_advance rfl rfl (Nat.le_of_ble_eq_true rfl) (Nat.le_of_ble_eq_true rfl) rfl (c_X12_advance (d + 4 * lv + 5) (σ := σ)  hR (by have z := htr.2.2.1.1.1; omega)) (fun r97 σ98 hp => ?_)
          obtain ⟨rfl, f100, f101, f102, f103, f104⟩ := hp
          show Tm _ _ 57 b σ98 [(4, .int (iI (σ.1 40))), (3, .int (iI (σ.1 39))), (2, .int (iI 2)), (1, .int (iI a)), (0, .ref b)] [] _
          have gt := hgt
          unfold GTm at gt
          have mm1 : σ.1 19 < σ98.1 19 := by have z := tok2 (by first | (have z := (i43 (by omega)).1; omega) | (have z := (i45 (by omega)).1; omega)); omega
          clear tok2
          have tr7 := htr.adv f101 f103 f104 (by first | (have z := (i43 (by omega)).1; omega) | (have z := (i45 (by omega)).1; omega)) (fun q => g8y (by first | exact Or.inl (i43 (by omega)) | exact Or.inr (i45 (by omega))) f100)
          have e28a : σ98.1 28 = σ.1 28 := f101.1 28 (by decide)
          have m34a : σ98.1 34 = σ.1 34 := f101.1 34 (by decide)
          refine tm_aload_n dX12_sum_57 rfl 4 rfl ?_
          refine tm_callV (M := m_X12_sum) (pc := 58) (ix := 314) (M' := m_X12_product) (As := []) (rest := []) dX12_sum_58 ok_X12_product im_X12_product se_X12_product ml12_314 np_X12_product rfl rfl (Nat.le_of_ble_eq_true rfl) (Nat.le_of_ble_eq_true rfl) rfl (c_X12_product (d) (σ := σ98)  hce f102 tr7.2.2.1 tr7.nn (by rw [e28a, h28s]; exact hl28)) (fun r105 σ106 hp => ?_)
          obtain ⟨v107, rfl, f108, f109, f110, f111, f112, f113, f114⟩ := hp
          show Tm _ _ 61 b σ106 [(4, .int (iI (σ.1 40))), (3, .int (iI (σ.1 39))), (2, .int (iI 2)), (1, .int (iI a)), (0, .ref b)] [.int (iI v107)] _
          have xp0 := f108
          have xp1 := f109
          have xp2 := f110
          have xp3 := f111
          have xp4 := f112
          have xp5 := f113
          have xp6 := f114
          refine tm_istore_n (L' := [(1, .int (iI v107)), (4, .int (iI (σ.1 40))), (3, .int (iI (σ.1 39))), (2, .int (iI 2)), (0, .ref b)]) dX12_sum_61 rfl (by decide) rfl ?_
          refine tm_iload_n dX12_sum_62 rfl 0 rfl ?_
          refine tm_if_eq (tgt := 82) dX12_sum_63 (by decide) ⟨by omega, by omega⟩ (fun h115 => ?_) (fun h115 => ?_)
          · refine tm_goto (tgt := 5) dX12_sum_82 (by decide) ?_
            refine tm_iload_n dX12_sum_5 rfl 0 rfl ?_
            refine tm_if_eq (tgt := 85) dX12_sum_6 (by decide) ⟨by omega, by omega⟩ (fun h116 => ?_) (fun h116 => ?_)
            · exact tm_sub [0, 4] rfl (hx_85 (v107) σ106 (((Fr.rfl.trans (Fr.sub hF (by decide) (by decide) (by decide))).trans (Fr.sub f101 (by decide) (by decide) (by decide))).trans (Fr.sub f109 (by decide) (by decide) (by decide))) f110 (by omega) (fun q => absurd q (by omega)) (fun _ => (tr7.fail xp3 (xp5.2 (by omega)))) (xp6.trans (e28a.trans h28s)))
            · exact absurd h116 (by omega)
          · have tr8 := tr7.sub xp3 (xp4 (by omega)) (xp5.1 (by omega))
            have gt2 := (xp4 (by omega)).2.2.1
            have mm2 := (xp4 (by omega)).2.1.1
            have m34b := xp3.2.2.2.2.2.1
            have e28b := (xp4 (by omega)).2.2.2.2
            have rdj := tr8.2.2.1.2
            have tkj := tr8.2.2.1.1.1
            have gt := gt2
            refine tm_aload_n dX12_sum_66 rfl 4 rfl ?_
            refine tm_iload_n dX12_sum_67 rfl 3 rfl ?_
            refine tm_iload_n dX12_sum_68 rfl 2 rfl ?_
            refine tm_iload dX12_sum_69 1 rfl ?_
            refine tm_aload_n dX12_sum_71 rfl 4 rfl ?_
            refine tm_getS (k := 39) (t := σ106.1 39) dX12_sum_72 (by decide) fl12_285 rfl (rfl) ?_
            have g117 := RG.s f110 39
            refine tm_aload_n dX12_sum_75 rfl 4 rfl ?_
            refine tm_getS (k := 40) (t := σ106.1 40) dX12_sum_76 (by decide) fl12_288 rfl (rfl) ?_
            have g118 := RG.s f110 40
            refine tm_callV (M := m_X12_sum) (pc := 79) (ix := 310) (M' := m_X12_joins) (As := [.int (iI 2), .int (iI (σ.1 39)), .int (iI (σ.1 40)), .int (iI (σ106.1 39)), .int (iI (σ106.1 40))]) (rest := []) dX12_sum_79 ok_X12_joins im_X12_joins se_X12_joins ml12_310 np_X12_joins rfl rfl (Nat.le_of_ble_eq_true rfl) (Nat.le_of_ble_eq_true rfl) rfl (c_X12_joins (d + 4 * lv + 7) (σ := σ106) (k := 2) (ak := σ.1 39) (a := σ.1 40) (bk := σ106.1 39) (c := σ106.1 40) f110 (by omega) (by decide) (by omega) (by have z := gt; unfold GTm at z; omega) (by omega) (by omega) (by omega)) (fun r119 σ120 hp => ?_)
            obtain ⟨rfl, f122, f123, f124, f125, f126⟩ := hp
            show Tm _ _ 82 b σ120 [(1, .int (iI v107)), (4, .int (iI (σ.1 40))), (3, .int (iI (σ.1 39))), (2, .int (iI 2)), (0, .ref b)] [] _
            have tr9 := tr8.join f122 ⟨f124.1, f124.2.1⟩ f125 f126 (by decide) hrd
            have gtj : GTm σ120 := by unfold GTm; rw [f124.2.2.1, f124.2.2.2, f124.1]; exact ⟨Or.inr rfl, fun _ => by omega⟩
            have mm3 : σ120.1 19 = _ := f122.1 19 (by decide)
            have e28c : σ120.1 28 = σ0.1 28 := by rw [f122.1 28 (by decide), e28b, e28a]; exact h28s
            refine tm_goto (tgt := 5) dX12_sum_82 (by decide) ?_
            refine tm_iload_n dX12_sum_5 rfl 0 rfl ?_
            refine tm_if_eq (tgt := 85) dX12_sum_6 (by decide) ⟨by omega, by omega⟩ (fun h127 => ?_) (fun h127 => ?_)
            · exact absurd h127 (by omega)
            · exact tm_sub [0, 4] rfl (ih _ (by omega) (v107) σ120 ((((Fr.rfl.trans (Fr.sub hF (by decide) (by decide) (by decide))).trans (Fr.sub f101 (by decide) (by decide) (by decide))).trans (Fr.sub f109 (by decide) (by decide) (by decide))).trans (Fr.sub f122 (by decide) (by decide) (by decide))) f123 (by omega) (tr9.le (by decide)) gtj e28c rfl)
        · refine tm_iconst dX12_sum_36 ?_
          refine tm_goto (tgt := 41) dX12_sum_37 (by decide) ?_
          refine tm_istore_n (L' := [(2, .int (iI 1)), (1, .int (iI a)), (0, .ref b)]) dX12_sum_41 rfl (by decide) rfl ?_
          refine tm_aload_n dX12_sum_42 rfl 2 rfl ?_
          refine tm_getS (k := 39) (t := σ.1 39) dX12_sum_43 (by decide) fl12_285 rfl (rfl) ?_
          have g128 := RG.s hR 39
          refine tm_istore_n (L' := [(3, .int (iI (σ.1 39))), (2, .int (iI 1)), (1, .int (iI a)), (0, .ref b)]) dX12_sum_46 rfl (by decide) rfl ?_
          refine tm_aload_n dX12_sum_47 rfl 3 rfl ?_
          refine tm_getS (k := 40) (t := σ.1 40) dX12_sum_48 (by decide) fl12_288 rfl (rfl) ?_
          have g129 := RG.s hR 40
          refine tm_istore (L' := [(4, .int (iI (σ.1 40))), (3, .int (iI (σ.1 39))), (2, .int (iI 1)), (1, .int (iI a)), (0, .ref b)]) dX12_sum_51 (by decide) rfl ?_
          refine tm_aload_n dX12_sum_53 rfl 4 rfl ?_
          refine tm_callV (M := m_X12_sum) (pc := 54) (ix := 265) (M' := m_X12_advance) (As := []) (rest := []) dX12_sum_54 ok_X12_advance im_X12_advance se_X12_advance ml12_265 np_X12_advance rfl rfl (Nat.le_of_ble_eq_true rfl) (Nat.le_of_ble_eq_true rfl) rfl (c_X12_advance (d + 4 * lv + 5) (σ := σ)  hR (by have z := htr.2.2.1.1.1; omega)) (fun r130 σ131 hp => ?_)
          obtain ⟨rfl, f133, f134, f135, f136, f137⟩ := hp
          show Tm _ _ 57 b σ131 [(4, .int (iI (σ.1 40))), (3, .int (iI (σ.1 39))), (2, .int (iI 1)), (1, .int (iI a)), (0, .ref b)] [] _
          have gt := hgt
          unfold GTm at gt
          have mm1 : σ.1 19 < σ131.1 19 := by have z := tok2 (by first | (have z := (i43 (by omega)).1; omega) | (have z := (i45 (by omega)).1; omega)); omega
          clear tok2
          have tr10 := htr.adv f134 f136 f137 (by first | (have z := (i43 (by omega)).1; omega) | (have z := (i45 (by omega)).1; omega)) (fun q => g8y (by first | exact Or.inl (i43 (by omega)) | exact Or.inr (i45 (by omega))) f133)
          have e28a : σ131.1 28 = σ.1 28 := f134.1 28 (by decide)
          have m34a : σ131.1 34 = σ.1 34 := f134.1 34 (by decide)
          refine tm_aload_n dX12_sum_57 rfl 4 rfl ?_
          refine tm_callV (M := m_X12_sum) (pc := 58) (ix := 314) (M' := m_X12_product) (As := []) (rest := []) dX12_sum_58 ok_X12_product im_X12_product se_X12_product ml12_314 np_X12_product rfl rfl (Nat.le_of_ble_eq_true rfl) (Nat.le_of_ble_eq_true rfl) rfl (c_X12_product (d) (σ := σ131)  hce f135 tr10.2.2.1 tr10.nn (by rw [e28a, h28s]; exact hl28)) (fun r138 σ139 hp => ?_)
          obtain ⟨v140, rfl, f141, f142, f143, f144, f145, f146, f147⟩ := hp
          show Tm _ _ 61 b σ139 [(4, .int (iI (σ.1 40))), (3, .int (iI (σ.1 39))), (2, .int (iI 1)), (1, .int (iI a)), (0, .ref b)] [.int (iI v140)] _
          have xp0 := f141
          have xp1 := f142
          have xp2 := f143
          have xp3 := f144
          have xp4 := f145
          have xp5 := f146
          have xp6 := f147
          refine tm_istore_n (L' := [(1, .int (iI v140)), (4, .int (iI (σ.1 40))), (3, .int (iI (σ.1 39))), (2, .int (iI 1)), (0, .ref b)]) dX12_sum_61 rfl (by decide) rfl ?_
          refine tm_iload_n dX12_sum_62 rfl 0 rfl ?_
          refine tm_if_eq (tgt := 82) dX12_sum_63 (by decide) ⟨by omega, by omega⟩ (fun h148 => ?_) (fun h148 => ?_)
          · refine tm_goto (tgt := 5) dX12_sum_82 (by decide) ?_
            refine tm_iload_n dX12_sum_5 rfl 0 rfl ?_
            refine tm_if_eq (tgt := 85) dX12_sum_6 (by decide) ⟨by omega, by omega⟩ (fun h149 => ?_) (fun h149 => ?_)
            · exact tm_sub [0, 4] rfl (hx_85 (v140) σ139 (((Fr.rfl.trans (Fr.sub hF (by decide) (by decide) (by decide))).trans (Fr.sub f134 (by decide) (by decide) (by decide))).trans (Fr.sub f142 (by decide) (by decide) (by decide))) f143 (by omega) (fun q => absurd q (by omega)) (fun _ => (tr10.fail xp3 (xp5.2 (by omega)))) (xp6.trans (e28a.trans h28s)))
            · exact absurd h149 (by omega)
          · have tr11 := tr10.sub xp3 (xp4 (by omega)) (xp5.1 (by omega))
            have gt2 := (xp4 (by omega)).2.2.1
            have mm2 := (xp4 (by omega)).2.1.1
            have m34b := xp3.2.2.2.2.2.1
            have e28b := (xp4 (by omega)).2.2.2.2
            have rdj := tr11.2.2.1.2
            have tkj := tr11.2.2.1.1.1
            have gt := gt2
            refine tm_aload_n dX12_sum_66 rfl 4 rfl ?_
            refine tm_iload_n dX12_sum_67 rfl 3 rfl ?_
            refine tm_iload_n dX12_sum_68 rfl 2 rfl ?_
            refine tm_iload dX12_sum_69 1 rfl ?_
            refine tm_aload_n dX12_sum_71 rfl 4 rfl ?_
            refine tm_getS (k := 39) (t := σ139.1 39) dX12_sum_72 (by decide) fl12_285 rfl (rfl) ?_
            have g150 := RG.s f143 39
            refine tm_aload_n dX12_sum_75 rfl 4 rfl ?_
            refine tm_getS (k := 40) (t := σ139.1 40) dX12_sum_76 (by decide) fl12_288 rfl (rfl) ?_
            have g151 := RG.s f143 40
            refine tm_callV (M := m_X12_sum) (pc := 79) (ix := 310) (M' := m_X12_joins) (As := [.int (iI 1), .int (iI (σ.1 39)), .int (iI (σ.1 40)), .int (iI (σ139.1 39)), .int (iI (σ139.1 40))]) (rest := []) dX12_sum_79 ok_X12_joins im_X12_joins se_X12_joins ml12_310 np_X12_joins rfl rfl (Nat.le_of_ble_eq_true rfl) (Nat.le_of_ble_eq_true rfl) rfl (c_X12_joins (d + 4 * lv + 7) (σ := σ139) (k := 1) (ak := σ.1 39) (a := σ.1 40) (bk := σ139.1 39) (c := σ139.1 40) f143 (by omega) (by decide) (by omega) (by have z := gt; unfold GTm at z; omega) (by omega) (by omega) (by omega)) (fun r152 σ153 hp => ?_)
            obtain ⟨rfl, f155, f156, f157, f158, f159⟩ := hp
            show Tm _ _ 82 b σ153 [(1, .int (iI v140)), (4, .int (iI (σ.1 40))), (3, .int (iI (σ.1 39))), (2, .int (iI 1)), (0, .ref b)] [] _
            have tr12 := tr11.join f155 ⟨f157.1, f157.2.1⟩ f158 f159 (by decide) hrd
            have gtj : GTm σ153 := by unfold GTm; rw [f157.2.2.1, f157.2.2.2, f157.1]; exact ⟨Or.inr rfl, fun _ => by omega⟩
            have mm3 : σ153.1 19 = _ := f155.1 19 (by decide)
            have e28c : σ153.1 28 = σ0.1 28 := by rw [f155.1 28 (by decide), e28b, e28a]; exact h28s
            refine tm_goto (tgt := 5) dX12_sum_82 (by decide) ?_
            refine tm_iload_n dX12_sum_5 rfl 0 rfl ?_
            refine tm_if_eq (tgt := 85) dX12_sum_6 (by decide) ⟨by omega, by omega⟩ (fun h160 => ?_) (fun h160 => ?_)
            · exact absurd h160 (by omega)
            · exact tm_sub [0, 4] rfl (ih _ (by omega) (v140) σ153 ((((Fr.rfl.trans (Fr.sub hF (by decide) (by decide) (by decide))).trans (Fr.sub f134 (by decide) (by decide) (by decide))).trans (Fr.sub f142 (by decide) (by decide) (by decide))).trans (Fr.sub f155 (by decide) (by decide) (by decide))) f156 (by omega) (tr12.le (by decide)) gtj e28c rfl)
theorem dX12_sum_0 : decode cX12_sum 0 = .ok (.aload_n 0, 1) := by decide +kernel
theorem dX12_sum_1 : decode cX12_sum 1 = .ok (.invokevirtual 314, 3) := by decide +kernel
theorem dX12_sum_4 : decode cX12_sum 4 = .ok (.istore_n 1, 1) := by decide +kernel
theorem dX12_sum_85 : decode cX12_sum 85 = .ok (.iload_n 1, 1) := by decide +kernel
theorem dX12_sum_86 : decode cX12_sum 86 = .ok (.ireturn, 1) := by decide +kernel
set_option maxHeartbeats 4000000 in
set_option maxRecDepth 20000 in
theorem c_X12_sum (d : Nat) {b : Nat} {σ : MS} {lv : Nat} (hce : ∀ (d : Nat) {b : Nat} {σ : MS} (hR : RG σ) (hrd : RDY σ) (hnn : NN σ) (h28 : σ.1 28 = 8 - (lv : Int)), Tm (d + 4 * lv + 8) m_X12_expression 0 b σ [(0, .ref b)] [] (fun ro σ2 => ∃ v : Int, ro = some (.int (iI v)) ∧ ((v = 0 ∨ v = 1)) ∧ (Fr [19, 20, 22, 23, 26, 27, 28, 32, 34, 39, 40] [3, 4, 5, 6, 7, 8, 35] [24, 38] σ σ2) ∧ (RG σ2) ∧ (PBF σ σ2) ∧ (Im v 1 (EXS σ σ2)) ∧ (PRS 2 v σ σ2) ∧ (σ2.1 28 = σ.1 28))) (hR : RG σ) (hrd : RDY σ) (hnn : NN σ) (h28 : σ.1 28 = 8 - (lv : Int)) : Tm (d + 4 * lv + 11) m_X12_sum 0 b σ [(0, .ref b)] [] (fun ro σ2 => ∃ v : Int, ro = some (.int (iI v)) ∧ ((v = 0 ∨ v = 1)) ∧ (Fr [19, 20, 22, 23, 26, 27, 28, 32, 34, 39, 40] [3, 4, 5, 6, 7, 8, 35] [24, 38] σ σ2) ∧ (RG σ2) ∧ (PBF σ σ2) ∧ (Im v 1 (EXS σ σ2)) ∧ (PRS 3 v σ σ2) ∧ (σ2.1 28 = σ.1 28)) := by
  have tr0 : TRm 3 0 σ [3] σ := TRm.start hrd hnn
  have tr1 := tr0.nxt (fun q => g3)
  refine tm_aload_n dX12_sum_0 rfl 0 rfl ?_
  refine tm_callV (M := m_X12_sum) (pc := 1) (ix := 314) (M' := m_X12_product) (As := []) (rest := []) dX12_sum_1 ok_X12_product im_X12_product se_X12_product ml12_314 np_X12_product rfl rfl (Nat.le_of_ble_eq_true rfl) (Nat.le_of_ble_eq_true rfl) rfl (c_X12_product (d) (σ := σ)  hce hR hrd hnn h28) (fun r1 σ2 hp => ?_)
  obtain ⟨v3, rfl, f4, f5, f6, f7, f8, f9, f10⟩ := hp
  show Tm _ _ 4 b σ2 [(0, .ref b)] [.int (iI v3)] _
  have xp0 := f4
  have xp1 := f5
  have xp2 := f6
  have xp3 := f7
  have xp4 := f8
  have xp5 := f9
  have xp6 := f10
  refine tm_istore_n (L' := [(1, .int (iI v3)), (0, .ref b)]) dX12_sum_4 rfl (by decide) rfl ?_
  refine tm_iload_n dX12_sum_5 rfl 0 rfl ?_
  refine tm_if_eq (tgt := 85) dX12_sum_6 (by decide) ⟨by omega, by omega⟩ (fun h11 => ?_) (fun h11 => ?_)
  · refine tm_iload_n dX12_sum_85 rfl 0 rfl ?_
    exact tm_zret (v := v3) rfl (by omega) dX12_sum_86 (⟨_, rfl, by omega, (Fr.rfl.trans (Fr.sub f5 (by decide) (by decide) (by decide))), f6, (tr1.fail xp3 (xp5.2 (by omega))).1, fun q => absurd q (by omega), by rw [show v3 = 0 by omega]; exact PRS.no (tr1.fail xp3 (xp5.2 (by omega))).2, xp6⟩)
  · have tr2 := tr1.sub xp3 (xp4 (by omega)) (xp5.1 (by omega))
    have e28z := (xp4 (by omega)).2.2.2.2
    refine tm_sub [0, 1] rfl (l_rd_sum (d) (σ0 := σ2) hce f6 tr2.2.2.1 ((xp4 (by omega)).2.2.2.2.trans h28) (fun a20 σ21 F14 R15 f16 f17 f18 f19 => ?_) _ (v3) σ2 Fr.rfl f6 (by omega) (TRm.start (xp4 (by omega)).1 xp3.2.2.1) (xp4 (by omega)).2.2.1 rfl rfl)
    show Tm _ _ 85 b σ21 [(1, .int (iI a20)), (0, .ref b)] [] _
    refine tm_iload_n dX12_sum_85 rfl 0 rfl ?_
    exact tm_zret (v := a20) rfl (by omega) dX12_sum_86 (⟨_, rfl, by omega, ((Fr.rfl.trans (Fr.sub f5 (by decide) (by decide) (by decide))).trans (Fr.sub F14 (by decide) (by decide) (by decide))), R15, (by rcases f16 with z | z; exact tr2.1.trans (f18 z).1; exact tr2.1.trans (f17 z).1.1), fun z => (tr2.cat (f17 z).1).exs (by decide) (f17 z).2.1 ((f17 z).2.2.trans e28z), ⟨fun z q => (tr2.cat (f17 z).1).2.2.2.2 q, fun z q => (tr2.2.2.2.2 q).fail (((f18 z).2 q).more [])⟩, f19.trans xp6⟩)
