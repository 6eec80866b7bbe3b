section
theorem ml12_317 : Cond.methodLink RX12 317 yX12_signed ∈ pWW := pw8 (List.mem_of_getElem? (i := 229) rfl) rfl
theorem dX12_product_9 : decode cX12_product 9 = .ok (.aload_n 0, 1) := by decide +kernel
theorem dX12_product_10 : decode cX12_product 10 = .ok (.bipush 42, 2) := by decide +kernel
theorem dX12_product_12 : decode cX12_product 12 = .ok (.invokevirtual 258, 3) := by decide +kernel
theorem dX12_product_15 : decode cX12_product 15 = .ok (.ifCond .eq 44, 3) := by decide +kernel
theorem dX12_product_18 : decode cX12_product 18 = .ok (.aload_n 0, 1) := by decide +kernel
theorem dX12_product_19 : decode cX12_product 19 = .ok (.getfield 285, 3) := by decide +kernel
theorem dX12_product_22 : decode cX12_product 22 = .ok (.istore_n 2, 1) := by decide +kernel
theorem dX12_product_23 : decode cX12_product 23 = .ok (.aload_n 0, 1) := by decide +kernel
theorem dX12_product_24 : decode cX12_product 24 = .ok (.getfield 288, 3) := by decide +kernel
theorem dX12_product_27 : decode cX12_product 27 = .ok (.istore_n 3, 1) := by decide +kernel
theorem dX12_product_28 : decode cX12_product 28 = .ok (.aload_n 0, 1) := by decide +kernel
theorem dX12_product_29 : decode cX12_product 29 = .ok (.invokevirtual 265, 3) := by decide +kernel
theorem dX12_product_32 : decode cX12_product 32 = .ok (.aload_n 0, 1) := by decide +kernel
theorem dX12_product_33 : decode cX12_product 33 = .ok (.invokevirtual 317, 3) := by decide +kernel
theorem dX12_product_36 : decode cX12_product 36 = .ok (.istore_n 1, 1) := by decide +kernel
theorem dX12_product_37 : decode cX12_product 37 = .ok (.iload_n 1, 1) := by decide +kernel
theorem dX12_product_38 : decode cX12_product 38 = .ok (.ifCond .eq 18, 3) := by decide +kernel
theorem dX12_product_56 : decode cX12_product 56 = .ok (.goto (-51), 3) := by decide +kernel
theorem dX12_product_5 : decode cX12_product 5 = .ok (.iload_n 1, 1) := by decide +kernel
theorem dX12_product_6 : decode cX12_product 6 = .ok (.ifCond .eq 53, 3) := by decide +kernel
theorem dX12_product_41 : decode cX12_product 41 = .ok (.aload_n 0, 1) := by decide +kernel
theorem dX12_product_42 : decode cX12_product 42 = .ok (.iconst 3, 1) := by decide +kernel
theorem dX12_product_43 : decode cX12_product 43 = .ok (.iload_n 2, 1) := by decide +kernel
theorem dX12_product_44 : decode cX12_product 44 = .ok (.iload_n 3, 1) := by decide +kernel
theorem dX12_product_45 : decode cX12_product 45 = .ok (.aload_n 0, 1) := by decide +kernel
theorem dX12_product_46 : decode cX12_product 46 = .ok (.getfield 285, 3) := by decide +kernel
theorem dX12_product_49 : decode cX12_product 49 = .ok (.aload_n 0, 1) := by decide +kernel
theorem dX12_product_50 : decode cX12_product 50 = .ok (.getfield 288, 3) := by decide +kernel
theorem dX12_product_53 : decode cX12_product 53 = .ok (.invokevirtual 310, 3) := by decide +kernel
set_option maxHeartbeats 4000000 in
set_option maxRecDepth 20000 in
theorem l_rd_prod (d : Nat) {b : Nat} {σ0 : MS} {lv : Nat} {post : Option Value → MS → Prop} (hce : ∀ (d : Nat) {b : Nat} {σ : MS} (hR : RG σ) (hrd : RDY σ) (hnn : NN σ) (h28 : σ.1 28 = 8 - (lv : Int)), Tm (d + 4 * lv + 8) m_X12_expression 0 b σ [(0, .ref b)] [] (fun ro σ2 => ∃ v : Int, ro = some (.int (iI v)) ∧ ((v = 0 ∨ v = 1)) ∧ (Fr [19, 20, 22, 23, 26, 27, 28, 32, 34, 39, 40] [3, 4, 5, 6, 7, 8, 35] [24, 38] σ σ2) ∧ (RG σ2) ∧ (PBF σ σ2) ∧ (Im v 1 (EXS σ σ2)) ∧ (PRS 2 v σ σ2) ∧ (σ2.1 28 = σ.1 28))) (hR0 : RG σ0) (hrd : RDY σ0) (hl28 : σ0.1 28 = 8 - (lv : Int)) (hx_59 : ∀ (a : Int) (σ : MS) , (Fr [19, 20, 22, 23, 26, 27, 28, 32, 34, 39, 40] [3, 4, 5, 6, 7, 8, 35] [24, 38] σ0 σ) → (RG σ) → (a = 0 ∨ a = 1) → ((a = 1 → TRm 9 0 σ0 [] σ ∧ GTm σ ∧ σ.1 28 = σ0.1 28)) → ((a = 0 → PBF σ0 σ ∧ ∀ q, GOF [9] σ0 q σ)) → (σ.1 28 = σ0.1 28) → Tm (d + 4 * lv + 10) m_X12_product 59 b σ [(1, .int (iI a)), (0, .ref b)] [] post) : ∀ (n : Nat) (a : Int) (σ : MS) , (Fr [19, 20, 22, 23, 26, 27, 28, 32, 34, 39, 40] [3, 4, 5, 6, 7, 8, 35] [24, 38] σ0 σ) → (RG σ) → (a = 1) → (TRm 9 0 σ0 [9] σ) → (GTm σ) → (σ.1 28 = σ0.1 28) → (1300 - σ.1 19).toNat = n → Tm (d + 4 * lv + 10) m_X12_product 9 b σ [(1, .int (iI a)), (0, .ref b)] [] post := by
  intro n
  induction n using Nat.strongRecOn with
  | _ n ih =>
    intro a σ hF hR h0 htr hgt h28s hm
    have tok0 := htr.2.2.1.1.1
    have tok2 := htr.2.2.1.1.2.1
    refine tm_aload_n dX12_product_9 rfl 1 rfl ?_
    refine tm_bipush dX12_product_10 (by decide) ?_
    refine tm_callV (M := m_X12_product) (pc := 12) (ix := 258) (M' := m_X12_isSign) (As := [.int (iI 42)]) (rest := []) dX12_product_12 ok_X12_isSign im_X12_isSign se_X12_isSign ml12_258 np_X12_isSign rfl rfl (Nat.le_of_ble_eq_true rfl) (Nat.le_of_ble_eq_true rfl) rfl (c2_X12_isSign (d + 4 * lv + 8) (σ := σ) (c := 42) hR (by omega)) (fun r1 σ2 hp => ?_)
    obtain ⟨v3, rfl, rfl, f4, f5, f6⟩ := hp
    show Tm _ _ 15 b σ [(1, .int (iI a)), (0, .ref b)] [.int (iI v3)] _
    have i42 := f5
    have n42_ := f6
    refine tm_if_eq (tgt := 59) dX12_product_15 (by decide) ⟨by omega, by omega⟩ (fun h7 => ?_) (fun h7 => ?_)
    · exact tm_sub [0, 1] rfl (hx_59 (a) σ (Fr.rfl.trans (Fr.sub hF (by decide) (by decide) (by decide))) hR (by omega) (fun _ => ⟨htr.nxt (fun q => g9n (n42_ (by omega))), hgt, h28s⟩) (fun q => absurd q (by omega)) h28s)
    · refine tm_aload_n dX12_product_18 rfl 1 rfl ?_
      refine tm_getS (k := 39) (t := σ.1 39) dX12_product_19 (by decide) fl12_285 rfl (rfl) ?_
      have g8 := RG.s hR 39
      refine tm_istore_n (L' := [(2, .int (iI (σ.1 39))), (1, .int (iI a)), (0, .ref b)]) dX12_product_22 rfl (by decide) rfl ?_
      refine tm_aload_n dX12_product_23 rfl 2 rfl ?_
      refine tm_getS (k := 40) (t := σ.1 40) dX12_product_24 (by decide) fl12_288 rfl (rfl) ?_
      have g9 := RG.s hR 40
      refine tm_istore_n (L' := [(3, .int (iI (σ.1 40))), (2, .int (iI (σ.1 39))), (1, .int (iI a)), (0, .ref b)]) dX12_product_27 rfl (by decide) rfl ?_
      refine tm_aload_n dX12_product_28 rfl 3 rfl ?_
      refine tm_callV (M := m_X12_product) (pc := 29) (ix := 265) (M' := m_X12_advance) (As := []) (rest := []) dX12_product_29 ok_X12_advance im_X12_advance se_X12_advance ml12_265 np_X12_advance rfl rfl (Nat.le_of_ble_eq_true rfl) (Nat.le_of_ble_eq_true rfl) rfl (c_X12_advance (d + 4 * lv + 4) (σ := σ)  hR (by have z := htr.2.2.1.1.1; omega)) (fun r10 σ11 hp => ?_)
      obtain ⟨rfl, f13, f14, f15, f16, f17⟩ := hp
      show Tm _ _ 32 b σ11 [(3, .int (iI (σ.1 40))), (2, .int (iI (σ.1 39))), (1, .int (iI a)), (0, .ref b)] [] _
      have gt := hgt
      unfold GTm at gt
      have mm1 : σ.1 19 < σ11.1 19 := by have z := tok2 (by have z := (i42 (by omega)).1; omega); omega
      clear tok2
      have tr1 := htr.adv f14 f16 f17 (by have z := (i42 (by omega)).1; omega) (fun q => g9y (i42 (by omega)) f13)
      have e28a : σ11.1 28 = σ.1 28 := f14.1 28 (by decide)
      have m34a : σ11.1 34 = σ.1 34 := f14.1 34 (by decide)
      refine tm_aload_n dX12_product_32 rfl 3 rfl ?_
      refine tm_callV (M := m_X12_product) (pc := 33) (ix := 317) (M' := m_X12_signed) (As := []) (rest := []) dX12_product_33 ok_X12_signed im_X12_signed se_X12_signed ml12_317 np_X12_signed rfl rfl (Nat.le_of_ble_eq_true rfl) (Nat.le_of_ble_eq_true rfl) rfl (c_X12_signed (d) (σ := σ11)  hce f15 tr1.2.2.1 tr1.nn (by rw [e28a, h28s]; exact hl28)) (fun r18 σ19 hp => ?_)
      obtain ⟨v20, rfl, f21, f22, f23, f24, f25, f26, f27⟩ := hp
      show Tm _ _ 36 b σ19 [(3, .int (iI (σ.1 40))), (2, .int (iI (σ.1 39))), (1, .int (iI a)), (0, .ref b)] [.int (iI v20)] _
      have xp0 := f21
      have xp1 := f22
      have xp2 := f23
      have xp3 := f24
      have xp4 := f25
      have xp5 := f26
      have xp6 := f27
      refine tm_istore_n (L' := [(1, .int (iI v20)), (3, .int (iI (σ.1 40))), (2, .int (iI (σ.1 39))), (0, .ref b)]) dX12_product_36 rfl (by decide) rfl ?_
      refine tm_iload_n dX12_product_37 rfl 0 rfl ?_
      refine tm_if_eq (tgt := 56) dX12_product_38 (by decide) ⟨by omega, by omega⟩ (fun h28 => ?_) (fun h28 => ?_)
      · refine tm_goto (tgt := 5) dX12_product_56 (by decide) ?_
        refine tm_iload_n dX12_product_5 rfl 0 rfl ?_
        refine tm_if_eq (tgt := 59) dX12_product_6 (by decide) ⟨by omega, by omega⟩ (fun h29 => ?_) (fun h29 => ?_)
        · exact tm_sub [0, 3] rfl (hx_59 (v20) σ19 (((Fr.rfl.trans (Fr.sub hF (by decide) (by decide) (by decide))).trans (Fr.sub f14 (by decide) (by decide) (by decide))).trans (Fr.sub f22 (by decide) (by decide) (by decide))) f23 (by omega) (fun q => absurd q (by omega)) (fun _ => (tr1.fail xp3 (xp5.2 (by omega)))) (xp6.trans (e28a.trans h28s)))
        · exact absurd h29 (by omega)
      · have tr2 := tr1.sub xp3 (xp4 (by omega)) (xp5.1 (by omega))
        have gt2 := (xp4 (by omega)).2.2.1
        have mm2 := (xp4 (by omega)).2.1.1
        have m34b := xp3.2.2.2.2.2.1
        have e28b := (xp4 (by omega)).2.2.2.2
        have rdj := tr2.2.2.1.2
        have tkj := tr2.2.2.1.1.1
        have gt := gt2
        refine tm_aload_n dX12_product_41 rfl 3 rfl ?_
        refine tm_iconst dX12_product_42 ?_
        refine tm_iload_n dX12_product_43 rfl 2 rfl ?_
        refine tm_iload_n dX12_product_44 rfl 1 rfl ?_
        refine tm_aload_n dX12_product_45 rfl 3 rfl ?_
        refine tm_getS (k := 39) (t := σ19.1 39) dX12_product_46 (by decide) fl12_285 rfl (rfl) ?_
        have g30 := RG.s f23 39
        refine tm_aload_n dX12_product_49 rfl 3 rfl ?_
        refine tm_getS (k := 40) (t := σ19.1 40) dX12_product_50 (by decide) fl12_288 rfl (rfl) ?_
        have g31 := RG.s f23 40
        refine tm_callV (M := m_X12_product) (pc := 53) (ix := 310) (M' := m_X12_joins) (As := [.int (iI 3), .int (iI (σ.1 39)), .int (iI (σ.1 40)), .int (iI (σ19.1 39)), .int (iI (σ19.1 40))]) (rest := []) dX12_product_53 ok_X12_joins im_X12_joins se_X12_joins ml12_310 np_X12_joins rfl rfl (Nat.le_of_ble_eq_true rfl) (Nat.le_of_ble_eq_true rfl) rfl (c_X12_joins (d + 4 * lv + 6) (σ := σ19) (k := 3) (ak := σ.1 39) (a := σ.1 40) (bk := σ19.1 39) (c := σ19.1 40) f23 (by omega) (by decide) (by omega) (by have z := gt; unfold GTm at z; omega) (by omega) (by omega) (by omega)) (fun r32 σ33 hp => ?_)
        obtain ⟨rfl, f35, f36, f37, f38, f39⟩ := hp
        show Tm _ _ 56 b σ33 [(1, .int (iI v20)), (3, .int (iI (σ.1 40))), (2, .int (iI (σ.1 39))), (0, .ref b)] [] _
        have tr3 := tr2.join f35 ⟨f37.1, f37.2.1⟩ f38 f39 (by decide) hrd
        have gtj : GTm σ33 := by unfold GTm; rw [f37.2.2.1, f37.2.2.2, f37.1]; exact ⟨Or.inr rfl, fun _ => by omega⟩
        have mm3 : σ33.1 19 = _ := f35.1 19 (by decide)
        have e28c : σ33.1 28 = σ0.1 28 := by rw [f35.1 28 (by decide), e28b, e28a]; exact h28s
        refine tm_goto (tgt := 5) dX12_product_56 (by decide) ?_
        refine tm_iload_n dX12_product_5 rfl 0 rfl ?_
        refine tm_if_eq (tgt := 59) dX12_product_6 (by decide) ⟨by omega, by omega⟩ (fun h40 => ?_) (fun h40 => ?_)
        · exact absurd h40 (by omega)
        · exact tm_sub [0, 3] rfl (ih _ (by omega) (v20) σ33 ((((Fr.rfl.trans (Fr.sub hF (by decide) (by decide) (by decide))).trans (Fr.sub f14 (by decide) (by decide) (by decide))).trans (Fr.sub f22 (by decide) (by decide) (by decide))).trans (Fr.sub f35 (by decide) (by decide) (by decide))) f36 (by omega) (tr3.le (by decide)) gtj e28c rfl)
theorem dX12_product_0 : decode cX12_product 0 = .ok (.aload_n 0, 1) := by decide +kernel
theorem dX12_product_1 : decode cX12_product 1 = .ok (.invokevirtual 317, 3) := by decide +kernel
theorem dX12_product_4 : decode cX12_product 4 = .ok (.istore_n 1, 1) := by decide +kernel
theorem dX12_product_59 : decode cX12_product 59 = .ok (.iload_n 1, 1) := by decide +kernel
theorem dX12_product_60 : decode cX12_product 60 = .ok (.ireturn, 1) := by decide +kernel
set_option maxHeartbeats 4000000 in
set_option maxRecDepth 20000 in
theorem c_X12_product (d : Nat) {b : Nat} {σ : MS} {lv : Nat} (hce : ∀ (d : Nat) {b : Nat} {σ : MS} (hR : RG σ) (hrd : RDY σ) (hnn : NN σ) (h28 : σ.1 28 = 8 - (lv : Int)), Tm (d + 4 * lv + 8) m_X12_expression 0 b σ [(0, .ref b)] [] (fun ro σ2 => ∃ v : Int, ro = some (.int (iI v)) ∧ ((v = 0 ∨ v = 1)) ∧ (Fr [19, 20, 22, 23, 26, 27, 28, 32, 34, 39, 40] [3, 4, 5, 6, 7, 8, 35] [24, 38] σ σ2) ∧ (RG σ2) ∧ (PBF σ σ2) ∧ (Im v 1 (EXS σ σ2)) ∧ (PRS 2 v σ σ2) ∧ (σ2.1 28 = σ.1 28))) (hR : RG σ) (hrd : RDY σ) (hnn : NN σ) (h28 : σ.1 28 = 8 - (lv : Int)) : Tm (d + 4 * lv + 10) m_X12_product 0 b σ [(0, .ref b)] [] (fun ro σ2 => ∃ v : Int, ro = some (.int (iI v)) ∧ ((v = 0 ∨ v = 1)) ∧ (Fr [19, 20, 22, 23, 26, 27, 28, 32, 34, 39, 40] [3, 4, 5, 6, 7, 8, 35] [24, 38] σ σ2) ∧ (RG σ2) ∧ (PBF σ σ2) ∧ (Im v 1 (EXS σ σ2)) ∧ (PRS 4 v σ σ2) ∧ (σ2.1 28 = σ.1 28)) := by
  have tr0 : TRm 4 0 σ [4] σ := TRm.start hrd hnn
  have tr1 := tr0.nxt (fun q => g4)
  refine tm_aload_n dX12_product_0 rfl 0 rfl ?_
  refine tm_callV (M := m_X12_product) (pc := 1) (ix := 317) (M' := m_X12_signed) (As := []) (rest := []) dX12_product_1 ok_X12_signed im_X12_signed se_X12_signed ml12_317 np_X12_signed rfl rfl (Nat.le_of_ble_eq_true rfl) (Nat.le_of_ble_eq_true rfl) rfl (c_X12_signed (d) (σ := σ)  hce hR hrd hnn h28) (fun r1 σ2 hp => ?_)
  obtain ⟨v3, rfl, f4, f5, f6, f7, f8, f9, f10⟩ := hp
  show Tm _ _ 4 b σ2 [(0, .ref b)] [.int (iI v3)] _
  have xp0 := f4
  have xp1 := f5
  have xp2 := f6
  have xp3 := f7
  have xp4 := f8
  have xp5 := f9
  have xp6 := f10
  refine tm_istore_n (L' := [(1, .int (iI v3)), (0, .ref b)]) dX12_product_4 rfl (by decide) rfl ?_
  refine tm_iload_n dX12_product_5 rfl 0 rfl ?_
  refine tm_if_eq (tgt := 59) dX12_product_6 (by decide) ⟨by omega, by omega⟩ (fun h11 => ?_) (fun h11 => ?_)
  · refine tm_iload_n dX12_product_59 rfl 0 rfl ?_
    exact tm_zret (v := v3) rfl (by omega) dX12_product_60 (⟨_, rfl, by omega, (Fr.rfl.trans (Fr.sub f5 (by decide) (by decide) (by decide))), f6, (tr1.fail xp3 (xp5.2 (by omega))).1, fun q => absurd q (by omega), by rw [show v3 = 0 by omega]; exact PRS.no (tr1.fail xp3 (xp5.2 (by omega))).2, xp6⟩)
  · have tr2 := tr1.sub xp3 (xp4 (by omega)) (xp5.1 (by omega))
    have e28z := (xp4 (by omega)).2.2.2.2
    refine tm_sub [0, 1] rfl (l_rd_prod (d) (σ0 := σ2) hce f6 tr2.2.2.1 ((xp4 (by omega)).2.2.2.2.trans h28) (fun a20 σ21 F14 R15 f16 f17 f18 f19 => ?_) _ (v3) σ2 Fr.rfl f6 (by omega) (TRm.start (xp4 (by omega)).1 xp3.2.2.1) (xp4 (by omega)).2.2.1 rfl rfl)
    show Tm _ _ 59 b σ21 [(1, .int (iI a20)), (0, .ref b)] [] _
    refine tm_iload_n dX12_product_59 rfl 0 rfl ?_
    exact tm_zret (v := a20) rfl (by omega) dX12_product_60 (⟨_, rfl, by omega, ((Fr.rfl.trans (Fr.sub f5 (by decide) (by decide) (by decide))).trans (Fr.sub F14 (by decide) (by decide) (by decide))), R15, (by rcases f16 with z | z; exact tr2.1.trans (f18 z).1; exact tr2.1.trans (f17 z).1.1), fun z => (tr2.cat (f17 z).1).exs (by decide) (f17 z).2.1 ((f17 z).2.2.trans e28z), ⟨fun z q => (tr2.cat (f17 z).1).2.2.2.2 q, fun z q => (tr2.2.2.2.2 q).fail (((f18 z).2 q).more [])⟩, f19.trans xp6⟩)
theorem ml12_314 : Cond.methodLink RX12 314 yX12_product ∈ pWW := pw8 (List.mem_of_getElem? (i := 225) rfl) rfl
theorem dX12_sum_9 : decode cX12_sum 9 = .ok (.aload_n 0, 1) := by decide +kernel
theorem dX12_sum_10 : decode cX12_sum 10 = .ok (.bipush 43, 2) := by decide +kernel
theorem dX12_sum_12 : decode cX12_sum 12 = .ok (.invokevirtual 258, 3) := by decide +kernel
theorem dX12_sum_15 : decode cX12_sum 15 = .ok (.ifCond .ne 12, 3) := by decide +kernel
theorem dX12_sum_27 : decode cX12_sum 27 = .ok (.aload_n 0, 1) := by decide +kernel
theorem dX12_sum_28 : decode cX12_sum 28 = .ok (.bipush 43, 2) := by decide +kernel
theorem dX12_sum_30 : decode cX12_sum 30 = .ok (.invokevirtual 258, 3) := by decide +kernel
theorem dX12_sum_33 : decode cX12_sum 33 = .ok (.ifCond .eq 7, 3) := by decide +kernel
theorem dX12_sum_40 : decode cX12_sum 40 = .ok (.iconst 2, 1) := by decide +kernel
theorem dX12_sum_41 : decode cX12_sum 41 = .ok (.istore_n 2, 1) := by decide +kernel
theorem dX12_sum_42 : decode cX12_sum 42 = .ok (.aload_n 0, 1) := by decide +kernel
theorem dX12_sum_43 : decode cX12_sum 43 = .ok (.getfield 285, 3) := by decide +kernel
theorem dX12_sum_46 : decode cX12_sum 46 = .ok (.istore_n 3, 1) := by decide +kernel
theorem dX12_sum_47 : decode cX12_sum 47 = .ok (.aload_n 0, 1) := by decide +kernel
theorem dX12_sum_48 : decode cX12_sum 48 = .ok (.getfield 288, 3) := by decide +kernel
theorem dX12_sum_51 : decode cX12_sum 51 = .ok (.istore 4, 2) := by decide +kernel
theorem dX12_sum_53 : decode cX12_sum 53 = .ok (.aload_n 0, 1) := by decide +kernel
theorem dX12_sum_54 : decode cX12_sum 54 = .ok (.invokevirtual 265, 3) := by decide +kernel
theorem dX12_sum_57 : decode cX12_sum 57 = .ok (.aload_n 0, 1) := by decide +kernel
theorem dX12_sum_58 : decode cX12_sum 58 = .ok (.invokevirtual 314, 3) := by decide +kernel
theorem dX12_sum_61 : decode cX12_sum 61 = .ok (.istore_n 1, 1) := by decide +kernel
theorem dX12_sum_62 : decode cX12_sum 62 = .ok (.iload_n 1, 1) := by decide +kernel
theorem dX12_sum_63 : decode cX12_sum 63 = .ok (.ifCond .eq 19, 3) := by decide +kernel
theorem dX12_sum_82 : decode cX12_sum 82 = .ok (.goto (-77), 3) := by decide +kernel
theorem dX12_sum_5 : decode cX12_sum 5 = .ok (.iload_n 1, 1) := by decide +kernel
theorem dX12_sum_6 : decode cX12_sum 6 = .ok (.ifCond .eq 79, 3) := by decide +kernel
theorem dX12_sum_66 : decode cX12_sum 66 = .ok (.aload_n 0, 1) := by decide +kernel
theorem dX12_sum_67 : decode cX12_sum 67 = .ok (.iload_n 2, 1) := by decide +kernel
theorem dX12_sum_68 : decode cX12_sum 68 = .ok (.iload_n 3, 1) := by decide +kernel
theorem dX12_sum_69 : decode cX12_sum 69 = .ok (.iload 4, 2) := by decide +kernel
theorem dX12_sum_71 : decode cX12_sum 71 = .ok (.aload_n 0, 1) := by decide +kernel
theorem dX12_sum_72 : decode cX12_sum 72 = .ok (.getfield 285, 3) := by decide +kernel
theorem dX12_sum_75 : decode cX12_sum 75 = .ok (.aload_n 0, 1) := by decide +kernel
theorem dX12_sum_76 : decode cX12_sum 76 = .ok (.getfield 288, 3) := by decide +kernel
theorem dX12_sum_79 : decode cX12_sum 79 = .ok (.invokevirtual 310, 3) := by decide +kernel
theorem dX12_sum_36 : decode cX12_sum 36 = .ok (.iconst 1, 1) := by decide +kernel
theorem dX12_sum_37 : decode cX12_sum 37 = .ok (.goto 4, 3) := by decide +kernel
theorem dX12_sum_18 : decode cX12_sum 18 = .ok (.aload_n 0, 1) := by decide +kernel
theorem dX12_sum_19 : decode cX12_sum 19 = .ok (.bipush 45, 2) := by decide +kernel
theorem dX12_sum_21 : decode cX12_sum 21 = .ok (.invokevirtual 258, 3) := by decide +kernel
theorem dX12_sum_24 : decode cX12_sum 24 = .ok (.ifCond .eq 61, 3) := by decide +kernel
set_option maxHeartbeats 4000000 in
set_option maxRecDepth 20000 in
theorem l_rd_sum (d : Nat) {b : Nat} {σ0 : MS} {lv : Nat} {post : Option Value → MS → Prop} (hce : ∀ (d : Nat) {b : Nat} {σ : MS} (hR : RG σ) (hrd : RDY σ) (hnn : NN σ) (h28 : σ.1 28 = 8 - (lv : Int)), Tm (d + 4 * lv + 8) m_X12_expression 0 b σ [(0, .ref b)] [] (fun ro σ2 => ∃ v : Int, ro = some (.int (iI v)) ∧ ((v = 0 ∨ v = 1)) ∧ (Fr [19, 20, 22, 23, 26, 27, 28, 32, 34, 39, 40] [3, 4, 5, 6, 7, 8, 35] [24, 38] σ σ2) ∧ (RG σ2) ∧ (PBF σ σ2) ∧ (Im v 1 (EXS σ σ2)) ∧ (PRS 2 v σ σ2) ∧ (σ2.1 28 = σ.1 28))) (hR0 : RG σ0) (hrd : RDY σ0) (hl28 : σ0.1 28 = 8 - (lv : Int)) (hx_85 : ∀ (a : Int) (σ : MS) , (Fr [19, 20, 22, 23, 26, 27, 28, 32, 34, 39, 40] [3, 4, 5, 6, 7, 8, 35] [24, 38] σ0 σ) → (RG σ) → (a = 0 ∨ a = 1) → ((a = 1 → TRm 8 0 σ0 [] σ ∧ GTm σ ∧ σ.1 28 = σ0.1 28)) → ((a = 0 → PBF σ0 σ ∧ ∀ q, GOF [8] σ0 q σ)) → (σ.1 28 = σ0.1 28) → Tm (d + 4 * lv + 11) m_X12_sum 85 b σ [(1, .int (iI a)), (0, .ref b)] [] post) : ∀ (n : Nat) (a : Int) (σ : MS) , (Fr [19, 20, 22, 23, 26, 27, 28, 32, 34, 39, 40] [3, 4, 5, 6, 7, 8, 35] [24, 38] σ0 σ) → (RG σ) → (a = 1) → (TRm 8 0 σ0 [8] σ) → (GTm σ) → (σ.1 28 = σ0.1 28) → (1300 - σ.1 19).toNat = n → Tm (d + 4 * lv + 11) m_X12_sum 9 b σ [(1, .int (iI a)), (0, .ref b)] [] post := by
  intro n
  induction n using Nat.strongRecOn with
  | _ n ih =>
    intro a σ hF hR h0 htr hgt h28s hm
    have tok0 := htr.2.2.1.1.1
    have tok2 := htr.2.2.1.1.2.1
    refine tm_aload_n dX12_sum_9 rfl 1 rfl ?_
    refine tm_bipush dX12_sum_10 (by decide) ?_
    refine tm_callV (M := m_X12_sum) (pc := 12) (ix := 258) (M' := m_X12_isSign) (As := [.int (iI 43)]) (rest := []) dX12_sum_12 ok_X12_isSign im_X12_isSign se_X12_isSign ml12_258 np_X12_isSign rfl rfl (Nat.le_of_ble_eq_true rfl) (Nat.le_of_ble_eq_true rfl) rfl (c2_X12_isSign (d + 4 * lv + 9) (σ := σ) (c := 43) hR (by omega)) (fun r1 σ2 hp => ?_)
    obtain ⟨v3, rfl, rfl, f4, f5, f6⟩ := hp
    show Tm _ _ 15 b σ [(1, .int (iI a)), (0, .ref b)] [.int (iI v3)] _
    have i43 := f5
    have n43_ := f6
    refine tm_if_ne (tgt := 27) dX12_sum_15 (by decide) ⟨by omega, by omega⟩ (fun h7 => ?_) (fun h7 => ?_)
    · refine tm_aload_n dX12_sum_27 rfl 1 rfl ?_
      refine tm_bipush dX12_sum_28 (by decide) ?_
      refine tm_callV (M := m_X12_sum) (pc := 30) (ix := 258) (M' := m_X12_isSign) (As := [.int (iI 43)]) (rest := []) dX12_sum_30 ok_X12_isSign im_X12_isSign se_X12_isSign ml12_258 np_X12_isSign rfl rfl (Nat.le_of_ble_eq_true rfl) (Nat.le_of_ble_eq_true rfl) rfl (c2_X12_isSign (d + 4 * lv + 9) (σ := σ) (c := 43) hR (by omega)) (fun r8 σ9 hp => ?_)
      obtain ⟨v10, rfl, rfl, f11, f12, f13⟩ := hp
      show Tm _ _ 33 b σ [(1, .int (iI a)), (0, .ref b)] [.int (iI v10)] _
      have i43b := f12
      have n43b_ := f13
      refine tm_if_eq (tgt := 40) dX12_sum_33 (by decide) ⟨by omega, by omega⟩ (fun h14 => ?_) (fun h14 => ?_)
      · refine tm_iconst dX12_sum_40 ?_
        refine tm_istore_n (L' := [(2, .int (iI 2)), (1, .int (iI a)), (0, .ref b)]) dX12_sum_41 rfl (by decide) rfl ?_
        refine tm_aload_n dX12_sum_42 rfl 2 rfl ?_
        refine tm_getS (k := 39) (t := σ.1 39) dX12_sum_43 (by decide) fl12_285 rfl (rfl) ?_
        have g15 := RG.s hR 39
        refine tm_istore_n (L' := [(3, .int (iI (σ.1 39))), (2, .int (iI 2)), (1, .int (iI a)), (0, .ref b)]) dX12_sum_46 rfl (by decide) rfl ?_
        refine tm_aload_n dX12_sum_47 rfl 3 rfl ?_
        refine tm_getS (k := 40) (t := σ.1 40) dX12_sum_48 (by decide) fl12_288 rfl (rfl) ?_
        have g16 := RG.s hR 40
        refine tm_istore (L' := [(4, .int (iI (σ.1 40))), (3, .int (iI (σ.1 39))), (2, .int (iI 2)), (1, .int (iI a)), (0, .ref b)]) dX12_sum_51 (by decide) rfl ?_
        refine tm_aload_n dX12_sum_53 rfl 4 rfl ?_
        refine tm_callV (M := m_X12_sum) (pc := 54) (ix := 265) (M' := m_X12_advance) (As := []) (rest := []) dX12_sum_54 ok_X12_advance im_X12_advance se_X12_advance ml12_265 np_X12_advance rfl rfl (Nat.le_of_ble_eq_true rfl) (Nat.le_of_ble_eq_true rfl) rfl (c_X12_advance (d + 4 * lv + 5) (σ := σ)  hR (by have z := htr.2.2.1.1.1; omega)) (fun r17 σ18 hp => ?_)
        obtain ⟨rfl, f20, f21, f22, f23, f24⟩ := hp
        show Tm _ _ 57 b σ18 [(4, .int (iI (σ.1 40))), (3, .int (iI (σ.1 39))), (2, .int (iI 2)), (1, .int (iI a)), (0, .ref b)] [] _
        have gt := hgt
        unfold GTm at gt
        have mm1 : σ.1 19 < σ18.1 19 := by have z := tok2 (by first | (have z := (i43 (by omega)).1; omega) | (have z := (i45 (by omega)).1; omega)); omega
        clear tok2
        have tr1 := htr.adv f21 f23 f24 (by first | (have z := (i43 (by omega)).1; omega) | (have z := (i45 (by omega)).1; omega)) (fun q => g8y (by first | exact Or.inl (i43 (by omega)) | exact Or.inr (i45 (by omega))) f20)
        have e28a : σ18.1 28 = σ.1 28 := f21.1 28 (by decide)
        have m34a : σ18.1 34 = σ.1 34 := f21.1 34 (by decide)
        refine tm_aload_n dX12_sum_57 rfl 4 rfl ?_
        refine tm_callV (M := m_X12_sum) (pc := 58) (ix := 314) (M' := m_X12_product) (As := []) (rest := []) dX12_sum_58 ok_X12_product im_X12_product se_X12_product ml12_314 np_X12_product rfl rfl (Nat.le_of_ble_eq_true rfl) (Nat.le_of_ble_eq_true rfl) rfl (c_X12_product (d) (σ := σ18)  hce f22 tr1.2.2.1 tr1.nn (by rw [e28a, h28s]; exact hl28)) (fun r25 σ26 hp => ?_)
        obtain ⟨v27, rfl, f28, f29, f30, f31, f32, f33, f34⟩ := hp
        show Tm _ _ 61 b σ26 [(4, .int (iI (σ.1 40))), (3, .int (iI (σ.1 39))), (2, .int (iI 2)), (1, .int (iI a)), (0, .ref b)] [.int (iI v27)] _
        have xp0 := f28
        have xp1 := f29
        have xp2 := f30
        have xp3 := f31
        have xp4 := f32
        have xp5 := f33
        have xp6 := f34
        refine tm_istore_n (L' := [(1, .int (iI v27)), (4, .int (iI (σ.1 40))), (3, .int (iI (σ.1 39))), (2, .int (iI 2)), (0, .ref b)]) dX12_sum_61 rfl (by decide) rfl ?_
        refine tm_iload_n dX12_sum_62 rfl 0 rfl ?_
        refine tm_if_eq (tgt := 82) dX12_sum_63 (by decide) ⟨by omega, by omega⟩ (fun h35 => ?_) (fun h35 => ?_)
        · refine tm_goto (tgt := 5) dX12_sum_82 (by decide) ?_
          refine tm_iload_n dX12_sum_5 rfl 0 rfl ?_
          refine tm_if_eq (tgt := 85) dX12_sum_6 (by decide) ⟨by omega, by omega⟩ (fun h36 => ?_) (fun h36 => ?_)
          · exact tm_sub [0, 4] rfl (hx_85 (v27) σ26 (((Fr.rfl.trans (Fr.sub hF (by decide) (by decide) (by decide))).trans (Fr.sub f21 (by decide) (by decide) (by decide))).trans (Fr.sub f29 (by decide) (by decide) (by decide))) f30 (by omega) (fun q => absurd q (by omega)) (fun _ => (tr1.fail xp3 (xp5.2 (by omega)))) (xp6.trans (e28a.trans h28s)))
          · exact absurd h36 (by omega)
        · have tr2 := tr1.sub xp3 (xp4 (by omega)) (xp5.1 (by omega))
          have gt2 := (xp4 (by omega)).2.2.1
          have mm2 := (xp4 (by omega)).2.1.1
          have m34b := xp3.2.2.2.2.2.1
          have e28b := (xp4 (by omega)).2.2.2.2
          have rdj := tr2.2.2.1.2
          have tkj := tr2.2.2.1.1.1
          have gt := gt2
          refine tm_aload_n dX12_sum_66 rfl 4 rfl ?_
          refine tm_iload_n dX12_sum_67 rfl 3 rfl ?_
          refine tm_iload_n dX12_sum_68 rfl 2 rfl ?_
          refine tm_iload dX12_sum_69 1 rfl ?_
          refine tm_aload_n dX12_sum_71 rfl 4 rfl ?_
          refine tm_getS (k := 39) (t := σ26.1 39) dX12_sum_72 (by decide) fl12_285 rfl (rfl) ?_
          have g37 := RG.s f30 39
          refine tm_aload_n dX12_sum_75 rfl 4 rfl ?_
          refine tm_getS (k := 40) (t := σ26.1 40) dX12_sum_76 (by decide) fl12_288 rfl (rfl) ?_
          have g38 := RG.s f30 40
          refine tm_callV (M := m_X12_sum) (pc := 79) (ix := 310) (M' := m_X12_joins) (As := [.int (iI 2), .int (iI (σ.1 39)), .int (iI (σ.1 40)), .int (iI (σ26.1 39)), .int (iI (σ26.1 40))]) (rest := []) dX12_sum_79 ok_X12_joins im_X12_joins se_X12_joins ml12_310 np_X12_joins rfl rfl (Nat.le_of_ble_eq_true rfl) (Nat.le_of_ble_eq_true rfl) rfl (c_X12_joins (d + 4 * lv + 7) (σ := σ26) (k := 2) (ak := σ.1 39) (a := σ.1 40) (bk := σ26.1 39) (c := σ26.1 40) f30 (by omega) (by decide) (by omega) (by have z := gt; unfold GTm at z; omega) (by omega) (by omega) (by omega)) (fun r39 σ40 hp => ?_)
          obtain ⟨rfl, f42, f43, f44, f45, f46⟩ := hp
          show Tm _ _ 82 b σ40 [(1, .int (iI v27)), (4, .int (iI (σ.1 40))), (3, .int (iI (σ.1 39))), (2, .int (iI 2)), (0, .ref b)] [] _
          have tr3 := tr2.join f42 ⟨f44.1, f44.2.1⟩ f45 f46 (by decide) hrd
          have gtj : GTm σ40 := by unfold GTm; rw [f44.2.2.1, f44.2.2.2, f44.1]; exact ⟨Or.inr rfl, fun _ => by omega⟩
          have mm3 : σ40.1 19 = _ := f42.1 19 (by decide)
          have e28c : σ40.1 28 = σ0.1 28 := by rw [f42.1 28 (by decide), e28b, e28a]; exact h28s
          refine tm_goto (tgt := 5) dX12_sum_82 (by decide) ?_
          refine tm_iload_n dX12_sum_5 rfl 0 rfl ?_
          refine tm_if_eq (tgt := 85) dX12_sum_6 (by decide) ⟨by omega, by omega⟩ (fun h47 => ?_) (fun h47 => ?_)
          · exact absurd h47 (by omega)
          · exact tm_sub [0, 4] rfl (ih _ (by omega) (v27) σ40 ((((Fr.rfl.trans (Fr.sub hF (by decide) (by decide) (by decide))).trans (Fr.sub f21 (by decide) (by decide) (by decide))).trans (Fr.sub f29 (by decide) (by decide) (by decide))).trans (Fr.sub f42 (by decide) (by decide) (by decide))) f43 (by omega) (tr3.le (by decide)) gtj e28c rfl)
      · refine tm_iconst dX12_sum_36 ?_
        refine tm_goto (tgt := 41) dX12_sum_37 (by decide) ?_
        refine tm_istore_n (L' := [(2, .int (iI 1)), (1, .int (iI a)), (0, .ref b)]) dX12_sum_41 rfl (by decide) rfl ?_
        refine tm_aload_n dX12_sum_42 rfl 2 rfl ?_
        refine tm_getS (k := 39) (t := σ.1 39) dX12_sum_43 (by decide) fl12_285 rfl (rfl) ?_
        have g48 := RG.s hR 39
        refine tm_istore_n (L' := [(3, .int (iI (σ.1 39))), (2, .int (iI 1)), (1, .int (iI a)), (0, .ref b)]) dX12_sum_46 rfl (by decide) rfl ?_
        refine tm_aload_n dX12_sum_47 rfl 3 rfl ?_
        refine tm_getS (k := 40) (t := σ.1 40) dX12_sum_48 (by decide) fl12_288 rfl (rfl) ?_
        have g49 := RG.s hR 40
        refine tm_istore (L' := [(4, .int (iI (σ.1 40))), (3, .int (iI (σ.1 39))), (2, .int (iI 1)), (1, .int (iI a)), (0, .ref b)]) dX12_sum_51 (by decide) rfl ?_
        refine tm_aload_n dX12_sum_53 rfl 4 rfl ?_
        refine tm_callV (M := m_X12_sum) (pc := 54) (ix := 265) (M' := m_X12_advance) (As := []) (rest := []) dX12_sum_54 ok_X12_advance im_X12_advance se_X12_advance ml12_265 np_X12_advance rfl rfl (Nat.le_of_ble_eq_true rfl) (Nat.le_of_ble_eq_true rfl) rfl (c_X12_advance (d + 4 * lv + 5) (σ := σ)  hR (by have z := htr.2.2.1.1.1; omega)) (fun r50 σ51 hp => ?_)
        obtain ⟨rfl, f53, f54, f55, f56, f57⟩ := hp
        show Tm _ _ 57 b σ51 [(4, .int (iI (σ.1 40))), (3, .int (iI (σ.1 39))), (2, .int (iI 1)), (1, .int (iI a)), (0, .ref b)] [] _
        have gt := hgt
        unfold GTm at gt
        have mm1 : σ.1 19 < σ51.1 19 := by have z := tok2 (by first | (have z := (i43 (by omega)).1; omega) | (have z := (i45 (by omega)).1; omega)); omega
        clear tok2
        have tr4 := htr.adv f54 f56 f57 (by first | (have z := (i43 (by omega)).1; omega) | (have z := (i45 (by omega)).1; omega)) (fun q => g8y (by first | exact Or.inl (i43 (by omega)) | exact Or.inr (i45 (by omega))) f53)
        have e28a : σ51.1 28 = σ.1 28 := f54.1 28 (by decide)
        have m34a : σ51.1 34 = σ.1 34 := f54.1 34 (by decide)
        refine tm_aload_n dX12_sum_57 rfl 4 rfl ?_
        refine tm_callV (M := m_X12_sum) (pc := 58) (ix := 314) (M' := m_X12_product) (As := []) (rest := []) dX12_sum_58 ok_X12_product im_X12_product se_X12_product ml12_314 np_X12_product rfl rfl (Nat.le_of_ble_eq_true rfl) (Nat.le_of_ble_eq_true rfl) rfl (c_X12_product (d) (σ := σ51)  hce f55 tr4.2.2.1 tr4.nn (by rw [e28a, h28s]; exact hl28)) (fun r58 σ59 hp => ?_)
        obtain ⟨v60, rfl, f61, f62, f63, f64, f65, f66, f67⟩ := hp
        show Tm _ _ 61 b σ59 [(4, .int (iI (σ.1 40))), (3, .int (iI (σ.1 39))), (2, .int (iI 1)), (1, .int (iI a)), (0, .ref b)] [.int (iI v60)] _
        have xp0 := f61
        have xp1 := f62
        have xp2 := f63
        have xp3 := f64
        have xp4 := f65
        have xp5 := f66
        have xp6 := f67
        refine tm_istore_n (L' := [(1, .int (iI v60)), (4, .int (iI (σ.1 40))), (3, .int (iI (σ.1 39))), (2, .int (iI 1)), (0, .ref b)]) dX12_sum_61 rfl (by decide) rfl ?_
        refine tm_iload_n dX12_sum_62 rfl 0 rfl ?_
        refine tm_if_eq (tgt := 82) dX12_sum_63 (by decide) ⟨by omega, by omega⟩ (fun h68 => ?_) (fun h68 => ?_)
        · refine tm_goto (tgt := 5) dX12_sum_82 (by decide) ?_
          refine tm_iload_n dX12_sum_5 rfl 0 rfl ?_
          refine tm_if_eq (tgt := 85) dX12_sum_6 (by decide) ⟨by omega, by omega⟩ (fun h69 => ?_) (fun h69 => ?_)
          · exact tm_sub [0, 4] rfl (hx_85 (v60) σ59 (((Fr.rfl.trans (Fr.sub hF (by decide) (by decide) (by decide))).trans (Fr.sub f54 (by decide) (by decide) (by decide))).trans (Fr.sub f62 (by decide) (by decide) (by decide))) f63 (by omega) (fun q => absurd q (by omega)) (fun _ => (tr4.fail xp3 (xp5.2 (by omega)))) (xp6.trans (e28a.trans h28s)))
          · exact absurd h69 (by omega)
        · have tr5 := tr4.sub xp3 (xp4 (by omega)) (xp5.1 (by omega))
          have gt2 := (xp4 (by omega)).2.2.1
          have mm2 := (xp4 (by omega)).2.1.1
          have m34b := xp3.2.2.2.2.2.1
          have e28b := (xp4 (by omega)).2.2.2.2
          have rdj := tr5.2.2.1.2
          have tkj := tr5.2.2.1.1.1
          have gt := gt2
          refine tm_aload_n dX12_sum_66 rfl 4 rfl ?_
          refine tm_iload_n dX12_sum_67 rfl 3 rfl ?_
          refine tm_iload_n dX12_sum_68 rfl 2 rfl ?_
          refine tm_iload dX12_sum_69 1 rfl ?_
          refine tm_aload_n dX12_sum_71 rfl 4 rfl ?_
          refine tm_getS (k := 39) (t := σ59.1 39) dX12_sum_72 (by decide) fl12_285 rfl (rfl) ?_
          have g70 := RG.s f63 39
          refine tm_aload_n dX12_sum_75 rfl 4 rfl ?_
          refine tm_getS (k := 40) (t := σ59.1 40) dX12_sum_76 (by decide) fl12_288 rfl (rfl) ?_
          have g71 := RG.s f63 40
          refine tm_callV (M := m_X12_sum) (pc := 79) (ix := 310) (M' := m_X12_joins) (As := [.int (iI 1), .int (iI (σ.1 39)), .int (iI (σ.1 40)), .int (iI (σ59.1 39)), .int (iI (σ59.1 40))]) (rest := []) dX12_sum_79 ok_X12_joins im_X12_joins se_X12_joins ml12_310 np_X12_joins rfl rfl (Nat.le_of_ble_eq_true rfl) (Nat.le_of_ble_eq_true rfl) rfl (c_X12_joins (d + 4 * lv + 7) (σ := σ59) (k := 1) (ak := σ.1 39) (a := σ.1 40) (bk := σ59.1 39) (c := σ59.1 40) f63 (by omega) (by decide) (by omega) (by have z := gt; unfold GTm at z; omega) (by omega) (by omega) (by omega)) (fun r72 σ73 hp => ?_)
          obtain ⟨rfl, f75, f76, f77, f78, f79⟩ := hp
          show Tm _ _ 82 b σ73 [(1, .int (iI v60)), (4, .int (iI (σ.1 40))), (3, .int (iI (σ.1 39))), (2, .int (iI 1)), (0, .ref b)] [] _
          have tr6 := tr5.join f75 ⟨f77.1, f77.2.1⟩ f78 f79 (by decide) hrd
          have gtj : GTm σ73 := by unfold GTm; rw [f77.2.2.1, f77.2.2.2, f77.1]; exact ⟨Or.inr rfl, fun _ => by omega⟩
          have mm3 : σ73.1 19 = _ := f75.1 19 (by decide)
          have e28c : σ73.1 28 = σ0.1 28 := by rw [f75.1 28 (by decide), e28b, e28a]; exact h28s
          refine tm_goto (tgt := 5) dX12_sum_82 (by decide) ?_
          refine tm_iload_n dX12_sum_5 rfl 0 rfl ?_
          refine tm_if_eq (tgt := 85) dX12_sum_6 (by decide) ⟨by omega, by omega⟩ (fun h80 => ?_) (fun h80 => ?_)
          · exact absurd h80 (by omega)
          · exact tm_sub [0, 4] rfl (ih _ (by omega) (v60) σ73 ((((Fr.rfl.trans (Fr.sub hF (by decide) (by decide) (by decide))).trans (Fr.sub f54 (by decide) (by decide) (by decide))).trans (Fr.sub f62 (by decide) (by decide) (by decide))).trans (Fr.sub f75 (by decide) (by decide) (by decide))) f76 (by omega) (tr6.le (by decide)) gtj e28c rfl)
    · refine tm_aload_n dX12_sum_18 rfl 1 rfl ?_
      refine tm_bipush dX12_sum_19 (by decide) ?_
      refine tm_callV (M := m_X12_sum) (pc := 21) (ix := 258) (M' := m_X12_isSign) (As := [.int (iI 45)]) (rest := []) dX12_sum_21 ok_X12_isSign im_X12_isSign se_X12_isSign ml12_258 np_X12_isSign rfl rfl (Nat.le_of_ble_eq_true rfl) (Nat.le_of_ble_eq_true rfl) rfl (c2_X12_isSign (d + 4 * lv + 9) (σ := σ) (c := 45) hR (by omega)) (fun r81 σ82 hp => ?_)
      obtain ⟨v83, rfl, rfl, f84, f85, f86⟩ := hp
      show Tm _ _ 24 b σ [(1, .int (iI a)), (0, .ref b)] [.int (iI v83)] _
      have i45 := f85
      have n45_ := f86
      refine tm_if_eq (tgt := 85) dX12_sum_24 (by decide) ⟨by omega, by omega⟩ (fun h87 => ?_) (fun h87 => ?_)
      · exact tm_sub [0, 1] rfl (hx_85 (a) σ (Fr.rfl.trans (Fr.sub hF (by decide) (by decide) (by decide))) hR (by omega) (fun _ => ⟨htr.nxt (fun q => g8n (n43_ (by omega)) (n45_ (by omega))), hgt, h28s⟩) (fun q => absurd q (by omega)) h28s)
      · refine tm_aload_n dX12_sum_27 rfl 1 rfl ?_
        refine tm_bipush dX12_sum_28 (by decide) ?_
        refine tm_callV (M := m_X12_sum) (pc := 30) (ix := 258) (M' := m_X12_isSign) (As := [.int (iI 43)]) (rest := []) dX12_sum_30 ok_X12_isSign im_X12_isSign se_X12_isSign ml12_258 np_X12_isSign rfl rfl (Nat.le_of_ble_eq_true rfl) (Nat.le_of_ble_eq_true rfl) rfl (c2_X12_isSign (d + 4 * lv + 9) (σ := σ) (c := 43) hR (by omega)) (fun r88 σ89 hp => ?_)
        obtain ⟨v90, rfl, rfl, f91, f92, f93⟩ := hp
        show Tm _ _ 33 b σ [(1, .int (iI a)), (0, .ref b)] [.int (iI v90)] _
        have i43b := f92
        have n43b_ := f93
        refine tm_if_eq (tgt := 40) dX12_sum_33 (by decide) ⟨by omega, by omega⟩ (fun h94 => ?_) (fun h94 => ?_)
        · refine tm_iconst dX12_sum_40 ?_
          refine tm_istore_n (L' := [(2, .int (iI 2)), (1, .int (iI a)), (0, .ref b)]) dX12_sum_41 rfl (by decide) rfl ?_
          refine tm_aload_n dX12_sum_42 rfl 2 rfl ?_
          refine tm_getS (k := 39) (t := σ.1 39) dX12_sum_43 (by decide) fl12_285 rfl (rfl) ?_
          have g95 := RG.s hR 39
          refine tm_istore_n (L' := [(3, .int (iI (σ.1 39))), (2, .int (iI 2)), (1, .int (iI a)), (0, .ref b)]) dX12_sum_46 rfl (by decide) rfl ?_
          refine tm_aload_n dX12_sum_47 rfl 3 rfl ?_
          refine tm_getS (k := 40) (t := σ.1 40) dX12_sum_48 (by decide) fl12_288 rfl (rfl) ?_
          have g96 := RG.s hR 40
          refine tm_istore (L' := [(4, .int (iI (σ.1 40))), (3, .int (iI (σ.1 39))), (2, .int (iI 2)), (1, .int (iI a)), (0, .ref b)]) dX12_sum_51 (by decide) rfl ?_
          refine tm_aload_n dX12_sum_53 rfl 4 rfl ?_
          refine tm_callV (M := m_X12_sum) (pc := 54) (ix := 265) (M' := m_X12_advance) (As := []) (rest := []) dX12_sum_54 ok_X12_advance im_X12_advance se_X12_advance ml12_265 np_X12_advance rfl rfl (Nat.le_of_ble_eq_true rfl) (Nat.le_of_ble_eq_true rfl) rfl (c_X12_advance (d + 4 * lv + 5) (σ := σ)  hR (by have z := htr.2.2.1.1.1; omega)) (fun r97 σ98 hp => ?_)
          obtain ⟨rfl, f100, f101, f102, f103, f104⟩ := hp
          show Tm _ _ 57 b σ98 [(4, .int (iI (σ.1 40))), (3, .int (iI (σ.1 39))), (2, .int (iI 2)), (1, .int (iI a)), (0, .ref b)] [] _
          have gt := hgt
          unfold GTm at gt
          have mm1 : σ.1 19 < σ98.1 19 := by have z := tok2 (by first | (have z := (i43 (by omega)).1; omega) | (have z := (i45 (by omega)).1; omega)); omega
          clear tok2
          have tr7 := htr.adv f101 f103 f104 (by first | (have z := (i43 (by omega)).1; omega) | (have z := (i45 (by omega)).1; omega)) (fun q => g8y (by first | exact Or.inl (i43 (by omega)) | exact Or.inr (i45 (by omega))) f100)
          have e28a : σ98.1 28 = σ.1 28 := f101.1 28 (by decide)
          have m34a : σ98.1 34 = σ.1 34 := f101.1 34 (by decide)
          refine tm_aload_n dX12_sum_57 rfl 4 rfl ?_
          refine tm_callV (M := m_X12_sum) (pc := 58) (ix := 314) (M' := m_X12_product) (As := []) (rest := []) dX12_sum_58 ok_X12_product im_X12_product se_X12_product ml12_314 np_X12_product rfl rfl (Nat.le_of_ble_eq_true rfl) (Nat.le_of_ble_eq_true rfl) rfl (c_X12_product (d) (σ := σ98)  hce f102 tr7.2.2.1 tr7.nn (by rw [e28a, h28s]; exact hl28)) (fun r105 σ106 hp => ?_)
          obtain ⟨v107, rfl, f108, f109, f110, f111, f112, f113, f114⟩ := hp
          show Tm _ _ 61 b σ106 [(4, .int (iI (σ.1 40))), (3, .int (iI (σ.1 39))), (2, .int (iI 2)), (1, .int (iI a)), (0, .ref b)] [.int (iI v107)] _
          have xp0 := f108
          have xp1 := f109
          have xp2 := f110
          have xp3 := f111
          have xp4 := f112
          have xp5 := f113
          have xp6 := f114
          refine tm_istore_n (L' := [(1, .int (iI v107)), (4, .int (iI (σ.1 40))), (3, .int (iI (σ.1 39))), (2, .int (iI 2)), (0, .ref b)]) dX12_sum_61 rfl (by decide) rfl ?_
          refine tm_iload_n dX12_sum_62 rfl 0 rfl ?_
          refine tm_if_eq (tgt := 82) dX12_sum_63 (by decide) ⟨by omega, by omega⟩ (fun h115 => ?_) (fun h115 => ?_)
          · refine tm_goto (tgt := 5) dX12_sum_82 (by decide) ?_
            refine tm_iload_n dX12_sum_5 rfl 0 rfl ?_
            refine tm_if_eq (tgt := 85) dX12_sum_6 (by decide) ⟨by omega, by omega⟩ (fun h116 => ?_) (fun h116 => ?_)
            · exact tm_sub [0, 4] rfl (hx_85 (v107) σ106 (((Fr.rfl.trans (Fr.sub hF (by decide) (by decide) (by decide))).trans (Fr.sub f101 (by decide) (by decide) (by decide))).trans (Fr.sub f109 (by decide) (by decide) (by decide))) f110 (by omega) (fun q => absurd q (by omega)) (fun _ => (tr7.fail xp3 (xp5.2 (by omega)))) (xp6.trans (e28a.trans h28s)))
            · exact absurd h116 (by omega)
          · have tr8 := tr7.sub xp3 (xp4 (by omega)) (xp5.1 (by omega))
            have gt2 := (xp4 (by omega)).2.2.1
            have mm2 := (xp4 (by omega)).2.1.1
            have m34b := xp3.2.2.2.2.2.1
            have e28b := (xp4 (by omega)).2.2.2.2
            have rdj := tr8.2.2.1.2
            have tkj := tr8.2.2.1.1.1
            have gt := gt2
            refine tm_aload_n dX12_sum_66 rfl 4 rfl ?_
            refine tm_iload_n dX12_sum_67 rfl 3 rfl ?_
            refine tm_iload_n dX12_sum_68 rfl 2 rfl ?_
            refine tm_iload dX12_sum_69 1 rfl ?_
            refine tm_aload_n dX12_sum_71 rfl 4 rfl ?_
            refine tm_getS (k := 39) (t := σ106.1 39) dX12_sum_72 (by decide) fl12_285 rfl (rfl) ?_
            have g117 := RG.s f110 39
            refine tm_aload_n dX12_sum_75 rfl 4 rfl ?_
            refine tm_getS (k := 40) (t := σ106.1 40) dX12_sum_76 (by decide) fl12_288 rfl (rfl) ?_
            have g118 := RG.s f110 40
            refine tm_callV (M := m_X12_sum) (pc := 79) (ix := 310) (M' := m_X12_joins) (As := [.int (iI 2), .int (iI (σ.1 39)), .int (iI (σ.1 40)), .int (iI (σ106.1 39)), .int (iI (σ106.1 40))]) (rest := []) dX12_sum_79 ok_X12_joins im_X12_joins se_X12_joins ml12_310 np_X12_joins rfl rfl (Nat.le_of_ble_eq_true rfl) (Nat.le_of_ble_eq_true rfl) rfl (c_X12_joins (d + 4 * lv + 7) (σ := σ106) (k := 2) (ak := σ.1 39) (a := σ.1 40) (bk := σ106.1 39) (c := σ106.1 40) f110 (by omega) (by decide) (by omega) (by have z := gt; unfold GTm at z; omega) (by omega) (by omega) (by omega)) (fun r119 σ120 hp => ?_)
            obtain ⟨rfl, f122, f123, f124, f125, f126⟩ := hp
            show Tm _ _ 82 b σ120 [(1, .int (iI v107)), (4, .int (iI (σ.1 40))), (3, .int (iI (σ.1 39))), (2, .int (iI 2)), (0, .ref b)] [] _
            have tr9 := tr8.join f122 ⟨f124.1, f124.2.1⟩ f125 f126 (by decide) hrd
            have gtj : GTm σ120 := by unfold GTm; rw [f124.2.2.1, f124.2.2.2, f124.1]; exact ⟨Or.inr rfl, fun _ => by omega⟩
            have mm3 : σ120.1 19 = _ := f122.1 19 (by decide)
            have e28c : σ120.1 28 = σ0.1 28 := by rw [f122.1 28 (by decide), e28b, e28a]; exact h28s
            refine tm_goto (tgt := 5) dX12_sum_82 (by decide) ?_
            refine tm_iload_n dX12_sum_5 rfl 0 rfl ?_
            refine tm_if_eq (tgt := 85) dX12_sum_6 (by decide) ⟨by omega, by omega⟩ (fun h127 => ?_) (fun h127 => ?_)
            · exact absurd h127 (by omega)
            · exact tm_sub [0, 4] rfl (ih _ (by omega) (v107) σ120 ((((Fr.rfl.trans (Fr.sub hF (by decide) (by decide) (by decide))).trans (Fr.sub f101 (by decide) (by decide) (by decide))).trans (Fr.sub f109 (by decide) (by decide) (by decide))).trans (Fr.sub f122 (by decide) (by decide) (by decide))) f123 (by omega) (tr9.le (by decide)) gtj e28c rfl)
        · refine tm_iconst dX12_sum_36 ?_
          refine tm_goto (tgt := 41) dX12_sum_37 (by decide) ?_
          refine tm_istore_n (L' := [(2, .int (iI 1)), (1, .int (iI a)), (0, .ref b)]) dX12_sum_41 rfl (by decide) rfl ?_
          refine tm_aload_n dX12_sum_42 rfl 2 rfl ?_
          refine tm_getS (k := 39) (t := σ.1 39) dX12_sum_43 (by decide) fl12_285 rfl (rfl) ?_
          have g128 := RG.s hR 39
          refine tm_istore_n (L' := [(3, .int (iI (σ.1 39))), (2, .int (iI 1)), (1, .int (iI a)), (0, .ref b)]) dX12_sum_46 rfl (by decide) rfl ?_
          refine tm_aload_n dX12_sum_47 rfl 3 rfl ?_
          refine tm_getS (k := 40) (t := σ.1 40) dX12_sum_48 (by decide) fl12_288 rfl (rfl) ?_
          have g129 := RG.s hR 40
          refine tm_istore (L' := [(4, .int (iI (σ.1 40))), (3, .int (iI (σ.1 39))), (2, .int (iI 1)), (1, .int (iI a)), (0, .ref b)]) dX12_sum_51 (by decide) rfl ?_
          refine tm_aload_n dX12_sum_53 rfl 4 rfl ?_
          refine tm_callV (M := m_X12_sum) (pc := 54) (ix := 265) (M' := m_X12_advance) (As := []) (rest := []) dX12_sum_54 ok_X12_advance im_X12_advance se_X12_advance ml12_265 np_X12_advance rfl rfl (Nat.le_of_ble_eq_true rfl) (Nat.le_of_ble_eq_true rfl) rfl (c_X12_advance (d + 4 * lv + 5) (σ := σ)  hR (by have z := htr.2.2.1.1.1; omega)) (fun r130 σ131 hp => ?_)
          obtain ⟨rfl, f133, f134, f135, f136, f137⟩ := hp
          show Tm _ _ 57 b σ131 [(4, .int (iI (σ.1 40))), (3, .int (iI (σ.1 39))), (2, .int (iI 1)), (1, .int (iI a)), (0, .ref b)] [] _
          have gt := hgt
          unfold GTm at gt
          have mm1 : σ.1 19 < σ131.1 19 := by have z := tok2 (by first | (have z := (i43 (by omega)).1; omega) | (have z := (i45 (by omega)).1; omega)); omega
          clear tok2
          have tr10 := htr.adv f134 f136 f137 (by first | (have z := (i43 (by omega)).1; omega) | (have z := (i45 (by omega)).1; omega)) (fun q => g8y (by first | exact Or.inl (i43 (by omega)) | exact Or.inr (i45 (by omega))) f133)
          have e28a : σ131.1 28 = σ.1 28 := f134.1 28 (by decide)
          have m34a : σ131.1 34 = σ.1 34 := f134.1 34 (by decide)
          refine tm_aload_n dX12_sum_57 rfl 4 rfl ?_
          refine tm_callV (M := m_X12_sum) (pc := 58) (ix := 314) (M' := m_X12_product) (As := []) (rest := []) dX12_sum_58 ok_X12_product im_X12_product se_X12_product ml12_314 np_X12_product rfl rfl (Nat.le_of_ble_eq_true rfl) (Nat.le_of_ble_eq_true rfl) rfl (c_X12_product (d) (σ := σ131)  hce f135 tr10.2.2.1 tr10.nn (by rw [e28a, h28s]; exact hl28)) (fun r138 σ139 hp => ?_)
          obtain ⟨v140, rfl, f141, f142, f143, f144, f145, f146, f147⟩ := hp
          show Tm _ _ 61 b σ139 [(4, .int (iI (σ.1 40))), (3, .int (iI (σ.1 39))), (2, .int (iI 1)), (1, .int (iI a)), (0, .ref b)] [.int (iI v140)] _
          have xp0 := f141
          have xp1 := f142
          have xp2 := f143
          have xp3 := f144
          have xp4 := f145
          have xp5 := f146
          have xp6 := f147
          refine tm_istore_n (L' := [(1, .int (iI v140)), (4, .int (iI (σ.1 40))), (3, .int (iI (σ.1 39))), (2, .int (iI 1)), (0, .ref b)]) dX12_sum_61 rfl (by decide) rfl ?_
          refine tm_iload_n dX12_sum_62 rfl 0 rfl ?_
          refine tm_if_eq (tgt := 82) dX12_sum_63 (by decide) ⟨by omega, by omega⟩ (fun h148 => ?_) (fun h148 => ?_)
          · refine tm_goto (tgt := 5) dX12_sum_82 (by decide) ?_
            refine tm_iload_n dX12_sum_5 rfl 0 rfl ?_
            refine tm_if_eq (tgt := 85) dX12_sum_6 (by decide) ⟨by omega, by omega⟩ (fun h149 => ?_) (fun h149 => ?_)
            · exact tm_sub [0, 4] rfl (hx_85 (v140) σ139 (((Fr.rfl.trans (Fr.sub hF (by decide) (by decide) (by decide))).trans (Fr.sub f134 (by decide) (by decide) (by decide))).trans (Fr.sub f142 (by decide) (by decide) (by decide))) f143 (by omega) (fun q => absurd q (by omega)) (fun _ => (tr10.fail xp3 (xp5.2 (by omega)))) (xp6.trans (e28a.trans h28s)))
            · exact absurd h149 (by omega)
          · have tr11 := tr10.sub xp3 (xp4 (by omega)) (xp5.1 (by omega))
            have gt2 := (xp4 (by omega)).2.2.1
            have mm2 := (xp4 (by omega)).2.1.1
            have m34b := xp3.2.2.2.2.2.1
            have e28b := (xp4 (by omega)).2.2.2.2
            have rdj := tr11.2.2.1.2
            have tkj := tr11.2.2.1.1.1
            have gt := gt2
            refine tm_aload_n dX12_sum_66 rfl 4 rfl ?_
            refine tm_iload_n dX12_sum_67 rfl 3 rfl ?_
            refine tm_iload_n dX12_sum_68 rfl 2 rfl ?_
            refine tm_iload dX12_sum_69 1 rfl ?_
            refine tm_aload_n dX12_sum_71 rfl 4 rfl ?_
            refine tm_getS (k := 39) (t := σ139.1 39) dX12_sum_72 (by decide) fl12_285 rfl (rfl) ?_
            have g150 := RG.s f143 39
            refine tm_aload_n dX12_sum_75 rfl 4 rfl ?_
            refine tm_getS (k := 40) (t := σ139.1 40) dX12_sum_76 (by decide) fl12_288 rfl (rfl) ?_
            have g151 := RG.s f143 40
            refine tm_callV (M := m_X12_sum) (pc := 79) (ix := 310) (M' := m_X12_joins) (As := [.int (iI 1), .int (iI (σ.1 39)), .int (iI (σ.1 40)), .int (iI (σ139.1 39)), .int (iI (σ139.1 40))]) (rest := []) dX12_sum_79 ok_X12_joins im_X12_joins se_X12_joins ml12_310 np_X12_joins rfl rfl (Nat.le_of_ble_eq_true rfl) (Nat.le_of_ble_eq_true rfl) rfl (c_X12_joins (d + 4 * lv + 7) (σ := σ139) (k := 1) (ak := σ.1 39) (a := σ.1 40) (bk := σ139.1 39) (c := σ139.1 40) f143 (by omega) (by decide) (by omega) (by have z := gt; unfold GTm at z; omega) (by omega) (by omega) (by omega)) (fun r152 σ153 hp => ?_)
            obtain ⟨rfl, f155, f156, f157, f158, f159⟩ := hp
            show Tm _ _ 82 b σ153 [(1, .int (iI v140)), (4, .int (iI (σ.1 40))), (3, .int (iI (σ.1 39))), (2, .int (iI 1)), (0, .ref b)] [] _
            have tr12 := tr11.join f155 ⟨f157.1, f157.2.1⟩ f158 f159 (by decide) hrd
            have gtj : GTm σ153 := by unfold GTm; rw [f157.2.2.1, f157.2.2.2, f157.1]; exact ⟨Or.inr rfl, fun _ => by omega⟩
            have mm3 : σ153.1 19 = _ := f155.1 19 (by decide)
            have e28c : σ153.1 28 = σ0.1 28 := by rw [f155.1 28 (by decide), e28b, e28a]; exact h28s
            refine tm_goto (tgt := 5) dX12_sum_82 (by decide) ?_
            refine tm_iload_n dX12_sum_5 rfl 0 rfl ?_
            refine tm_if_eq (tgt := 85) dX12_sum_6 (by decide) ⟨by omega, by omega⟩ (fun h160 => ?_) (fun h160 => ?_)
            · exact absurd h160 (by omega)
            · exact tm_sub [0, 4] rfl (ih _ (by omega) (v140) σ153 ((((Fr.rfl.trans (Fr.sub hF (by decide) (by decide) (by decide))).trans (Fr.sub f134 (by decide) (by decide) (by decide))).trans (Fr.sub f142 (by decide) (by decide) (by decide))).trans (Fr.sub f155 (by decide) (by decide) (by decide))) f156 (by omega) (tr12.le (by decide)) gtj e28c rfl)
theorem dX12_sum_0 : decode cX12_sum 0 = .ok (.aload_n 0, 1) := by decide +kernel
theorem dX12_sum_1 : decode cX12_sum 1 = .ok (.invokevirtual 314, 3) := by decide +kernel
theorem dX12_sum_4 : decode cX12_sum 4 = .ok (.istore_n 1, 1) := by decide +kernel
theorem dX12_sum_85 : decode cX12_sum 85 = .ok (.iload_n 1, 1) := by decide +kernel
theorem dX12_sum_86 : decode cX12_sum 86 = .ok (.ireturn, 1) := by decide +kernel
set_option maxHeartbeats 4000000 in
set_option maxRecDepth 20000 in
theorem c_X12_sum (d : Nat) {b : Nat} {σ : MS} {lv : Nat} (hce : ∀ (d : Nat) {b : Nat} {σ : MS} (hR : RG σ) (hrd : RDY σ) (hnn : NN σ) (h28 : σ.1 28 = 8 - (lv : Int)), Tm (d + 4 * lv + 8) m_X12_expression 0 b σ [(0, .ref b)] [] (fun ro σ2 => ∃ v : Int, ro = some (.int (iI v)) ∧ ((v = 0 ∨ v = 1)) ∧ (Fr [19, 20, 22, 23, 26, 27, 28, 32, 34, 39, 40] [3, 4, 5, 6, 7, 8, 35] [24, 38] σ σ2) ∧ (RG σ2) ∧ (PBF σ σ2) ∧ (Im v 1 (EXS σ σ2)) ∧ (PRS 2 v σ σ2) ∧ (σ2.1 28 = σ.1 28))) (hR : RG σ) (hrd : RDY σ) (hnn : NN σ) (h28 : σ.1 28 = 8 - (lv : Int)) : Tm (d + 4 * lv + 11) m_X12_sum 0 b σ [(0, .ref b)] [] (fun ro σ2 => ∃ v : Int, ro = some (.int (iI v)) ∧ ((v = 0 ∨ v = 1)) ∧ (Fr [19, 20, 22, 23, 26, 27, 28, 32, 34, 39, 40] [3, 4, 5, 6, 7, 8, 35] [24, 38] σ σ2) ∧ (RG σ2) ∧ (PBF σ σ2) ∧ (Im v 1 (EXS σ σ2)) ∧ (PRS 3 v σ σ2) ∧ (σ2.1 28 = σ.1 28)) := by
  have tr0 : TRm 3 0 σ [3] σ := TRm.start hrd hnn
  have tr1 := tr0.nxt (fun q => g3)
  refine tm_aload_n dX12_sum_0 rfl 0 rfl ?_
  refine tm_callV (M := m_X12_sum) (pc := 1) (ix := 314) (M' := m_X12_product) (As := []) (rest := []) dX12_sum_1 ok_X12_product im_X12_product se_X12_product ml12_314 np_X12_product rfl rfl (Nat.le_of_ble_eq_true rfl) (Nat.le_of_ble_eq_true rfl) rfl (c_X12_product (d) (σ := σ)  hce hR hrd hnn h28) (fun r1 σ2 hp => ?_)
  obtain ⟨v3, rfl, f4, f5, f6, f7, f8, f9, f10⟩ := hp
  show Tm _ _ 4 b σ2 [(0, .ref b)] [.int (iI v3)] _
  have xp0 := f4
  have xp1 := f5
  have xp2 := f6
  have xp3 := f7
  have xp4 := f8
  have xp5 := f9
  have xp6 := f10
  refine tm_istore_n (L' := [(1, .int (iI v3)), (0, .ref b)]) dX12_sum_4 rfl (by decide) rfl ?_
  refine tm_iload_n dX12_sum_5 rfl 0 rfl ?_
  refine tm_if_eq (tgt := 85) dX12_sum_6 (by decide) ⟨by omega, by omega⟩ (fun h11 => ?_) (fun h11 => ?_)
  · refine tm_iload_n dX12_sum_85 rfl 0 rfl ?_
    exact tm_zret (v := v3) rfl (by omega) dX12_sum_86 (⟨_, rfl, by omega, (Fr.rfl.trans (Fr.sub f5 (by decide) (by decide) (by decide))), f6, (tr1.fail xp3 (xp5.2 (by omega))).1, fun q => absurd q (by omega), by rw [show v3 = 0 by omega]; exact PRS.no (tr1.fail xp3 (xp5.2 (by omega))).2, xp6⟩)
  · have tr2 := tr1.sub xp3 (xp4 (by omega)) (xp5.1 (by omega))
    have e28z := (xp4 (by omega)).2.2.2.2
    refine tm_sub [0, 1] rfl (l_rd_sum (d) (σ0 := σ2) hce f6 tr2.2.2.1 ((xp4 (by omega)).2.2.2.2.trans h28) (fun a20 σ21 F14 R15 f16 f17 f18 f19 => ?_) _ (v3) σ2 Fr.rfl f6 (by omega) (TRm.start (xp4 (by omega)).1 xp3.2.2.1) (xp4 (by omega)).2.2.1 rfl rfl)
    show Tm _ _ 85 b σ21 [(1, .int (iI a20)), (0, .ref b)] [] _
    refine tm_iload_n dX12_sum_85 rfl 0 rfl ?_
    exact tm_zret (v := a20) rfl (by omega) dX12_sum_86 (⟨_, rfl, by omega, ((Fr.rfl.trans (Fr.sub f5 (by decide) (by decide) (by decide))).trans (Fr.sub F14 (by decide) (by decide) (by decide))), R15, (by rcases f16 with z | z; exact tr2.1.trans (f18 z).1; exact tr2.1.trans (f17 z).1.1), fun z => (tr2.cat (f17 z).1).exs (by decide) (f17 z).2.1 ((f17 z).2.2.trans e28z), ⟨fun z q => (tr2.cat (f17 z).1).2.2.2.2 q, fun z q => (tr2.2.2.2.2 q).fail (((f18 z).2 q).more [])⟩, f19.trans xp6⟩)
end
section
theorem fl12_304 : Cond.fieldLink RX12 304 (TX12 28).1 (TX12 28).2.1 (TX12 28).2.2.1 ∈ pWW := pw7 (List.mem_of_getElem? (i := 35) rfl) rfl
theorem ml12_307 : Cond.methodLink RX12 307 yX12_sum ∈ pWW := pw8 (List.mem_of_getElem? (i := 221) rfl) rfl
theorem dX12_expression_0 : decode cX12_expression 0 = .ok (.aload_n 0, 1) := by decide +kernel
theorem dX12_expression_1 : decode cX12_expression 1 = .ok (.getfield 304, 3) := by decide +kernel
theorem dX12_expression_4 : decode cX12_expression 4 = .ok (.bipush 8, 2) := by decide +kernel
theorem dX12_expression_6 : decode cX12_expression 6 = .ok (.if_icmp .ne 8, 3) := by decide +kernel
theorem dX12_expression_14 : decode cX12_expression 14 = .ok (.aload_n 0, 1) := by decide +kernel
theorem dX12_expression_15 : decode cX12_expression 15 = .ok (.dup, 1) := by decide +kernel
theorem dX12_expression_16 : decode cX12_expression 16 = .ok (.getfield 304, 3) := by decide +kernel
theorem dX12_expression_19 : decode cX12_expression 19 = .ok (.iconst 1, 1) := by decide +kernel
theorem dX12_expression_20 : decode cX12_expression 20 = .ok (.iadd, 1) := by decide +kernel
theorem dX12_expression_21 : decode cX12_expression 21 = .ok (.putfield 304, 3) := by decide +kernel
theorem dX12_expression_24 : decode cX12_expression 24 = .ok (.aload_n 0, 1) := by decide +kernel
theorem dX12_expression_25 : decode cX12_expression 25 = .ok (.invokevirtual 307, 3) := by decide +kernel
theorem dX12_expression_28 : decode cX12_expression 28 = .ok (.istore_n 1, 1) := by decide +kernel
theorem dX12_expression_29 : decode cX12_expression 29 = .ok (.iload_n 1, 1) := by decide +kernel
theorem dX12_expression_30 : decode cX12_expression 30 = .ok (.ifCond .eq 76, 3) := by decide +kernel
theorem dX12_expression_106 : decode cX12_expression 106 = .ok (.aload_n 0, 1) := by decide +kernel
theorem dX12_expression_107 : decode cX12_expression 107 = .ok (.dup, 1) := by decide +kernel
theorem dX12_expression_108 : decode cX12_expression 108 = .ok (.getfield 304, 3) := by decide +kernel
theorem dX12_expression_111 : decode cX12_expression 111 = .ok (.iconst 1, 1) := by decide +kernel
theorem dX12_expression_112 : decode cX12_expression 112 = .ok (.isub, 1) := by decide +kernel
theorem dX12_expression_113 : decode cX12_expression 113 = .ok (.putfield 304, 3) := by decide +kernel
theorem dX12_expression_116 : decode cX12_expression 116 = .ok (.iload_n 1, 1) := by decide +kernel
theorem dX12_expression_117 : decode cX12_expression 117 = .ok (.ireturn, 1) := by decide +kernel
theorem dX12_expression_33 : decode cX12_expression 33 = .ok (.aload_n 0, 1) := by decide +kernel
theorem dX12_expression_34 : decode cX12_expression 34 = .ok (.bipush 61, 2) := by decide +kernel
theorem dX12_expression_36 : decode cX12_expression 36 = .ok (.invokevirtual 258, 3) := by decide +kernel
theorem dX12_expression_39 : decode cX12_expression 39 = .ok (.ifCond .ne 12, 3) := by decide +kernel
theorem dX12_expression_51 : decode cX12_expression 51 = .ok (.aload_n 0, 1) := by decide +kernel
theorem dX12_expression_52 : decode cX12_expression 52 = .ok (.bipush 61, 2) := by decide +kernel
theorem dX12_expression_54 : decode cX12_expression 54 = .ok (.invokevirtual 258, 3) := by decide +kernel
theorem dX12_expression_57 : decode cX12_expression 57 = .ok (.ifCond .eq 7, 3) := by decide +kernel
theorem dX12_expression_64 : decode cX12_expression 64 = .ok (.iconst 5, 1) := by decide +kernel
theorem dX12_expression_65 : decode cX12_expression 65 = .ok (.istore_n 2, 1) := by decide +kernel
theorem dX12_expression_66 : decode cX12_expression 66 = .ok (.aload_n 0, 1) := by decide +kernel
theorem dX12_expression_67 : decode cX12_expression 67 = .ok (.getfield 285, 3) := by decide +kernel
theorem dX12_expression_70 : decode cX12_expression 70 = .ok (.istore_n 3, 1) := by decide +kernel
theorem dX12_expression_71 : decode cX12_expression 71 = .ok (.aload_n 0, 1) := by decide +kernel
theorem dX12_expression_72 : decode cX12_expression 72 = .ok (.getfield 288, 3) := by decide +kernel
theorem dX12_expression_75 : decode cX12_expression 75 = .ok (.istore 4, 2) := by decide +kernel
theorem dX12_expression_77 : decode cX12_expression 77 = .ok (.aload_n 0, 1) := by decide +kernel
theorem dX12_expression_78 : decode cX12_expression 78 = .ok (.invokevirtual 265, 3) := by decide +kernel
theorem dX12_expression_81 : decode cX12_expression 81 = .ok (.aload_n 0, 1) := by decide +kernel
theorem dX12_expression_82 : decode cX12_expression 82 = .ok (.invokevirtual 307, 3) := by decide +kernel
theorem dX12_expression_85 : decode cX12_expression 85 = .ok (.istore_n 1, 1) := by decide +kernel
theorem dX12_expression_86 : decode cX12_expression 86 = .ok (.iload_n 1, 1) := by decide +kernel
theorem dX12_expression_87 : decode cX12_expression 87 = .ok (.ifCond .eq 19, 3) := by decide +kernel
theorem dX12_expression_90 : decode cX12_expression 90 = .ok (.aload_n 0, 1) := by decide +kernel
theorem dX12_expression_91 : decode cX12_expression 91 = .ok (.iload_n 2, 1) := by decide +kernel
theorem dX12_expression_92 : decode cX12_expression 92 = .ok (.iload_n 3, 1) := by decide +kernel
theorem dX12_expression_93 : decode cX12_expression 93 = .ok (.iload 4, 2) := by decide +kernel
theorem dX12_expression_95 : decode cX12_expression 95 = .ok (.aload_n 0, 1) := by decide +kernel
theorem dX12_expression_96 : decode cX12_expression 96 = .ok (.getfield 285, 3) := by decide +kernel
theorem dX12_expression_99 : decode cX12_expression 99 = .ok (.aload_n 0, 1) := by decide +kernel
theorem dX12_expression_100 : decode cX12_expression 100 = .ok (.getfield 288, 3) := by decide +kernel
theorem dX12_expression_103 : decode cX12_expression 103 = .ok (.invokevirtual 310, 3) := by decide +kernel
theorem dX12_expression_60 : decode cX12_expression 60 = .ok (.iconst 4, 1) := by decide +kernel
theorem dX12_expression_61 : decode cX12_expression 61 = .ok (.goto 4, 3) := by decide +kernel
theorem dX12_expression_42 : decode cX12_expression 42 = .ok (.aload_n 0, 1) := by decide +kernel
theorem dX12_expression_43 : decode cX12_expression 43 = .ok (.bipush 60, 2) := by decide +kernel
theorem dX12_expression_45 : decode cX12_expression 45 = .ok (.invokevirtual 258, 3) := by decide +kernel
theorem dX12_expression_48 : decode cX12_expression 48 = .ok (.ifCond .eq 58, 3) := by decide +kernel
theorem dX12_expression_9 : decode cX12_expression 9 = .ok (.aload_n 0, 1) := by decide +kernel
theorem dX12_expression_10 : decode cX12_expression 10 = .ok (.invokevirtual 261, 3) := by decide +kernel
theorem dX12_expression_13 : decode cX12_expression 13 = .ok (.ireturn, 1) := by decide +kernel
set_option maxHeartbeats 4000000 in
set_option maxRecDepth 20000 in
theorem cs_X12_expression (d : Nat) {b : Nat} {σ : MS} {lv : Nat} (hce : ∀ (d : Nat) {b : Nat} {σ : MS} (hR : RG σ) (hrd : RDY σ) (hnn : NN σ) (h28 : σ.1 28 = 8 - (lv : Int)), Tm (d + 4 * lv + 8) m_X12_expression 0 b σ [(0, .ref b)] [] (fun ro σ2 => ∃ v : Int, ro = some (.int (iI v)) ∧ ((v = 0 ∨ v = 1)) ∧ (Fr [19, 20, 22, 23, 26, 27, 28, 32, 34, 39, 40] [3, 4, 5, 6, 7, 8, 35] [24, 38] σ σ2) ∧ (RG σ2) ∧ (PBF σ σ2) ∧ (Im v 1 (EXS σ σ2)) ∧ (PRS 2 v σ σ2) ∧ (σ2.1 28 = σ.1 28))) (hR : RG σ) (hrd : RDY σ) (hnn : NN σ) (h28 : σ.1 28 = 7 - (lv : Int)) : Tm (d + 4 * lv + 12) m_X12_expression 0 b σ [(0, .ref b)] [] (fun ro σ2 => ∃ v : Int, ro = some (.int (iI v)) ∧ ((v = 0 ∨ v = 1)) ∧ (Fr [19, 20, 22, 23, 26, 27, 28, 32, 34, 39, 40] [3, 4, 5, 6, 7, 8, 35] [24, 38] σ σ2) ∧ (RG σ2) ∧ (PBF σ σ2) ∧ (Im v 1 (EXS σ σ2)) ∧ (PRS 2 v σ σ2) ∧ (σ2.1 28 = σ.1 28)) := by
  have rd0 := hrd
  unfold RDY at rd0
  have tr0 : TRm 2 0 σ [2] σ := TRm.start hrd hnn
  refine tm_aload_n dX12_expression_0 rfl 0 rfl ?_
  refine tm_getS (k := 28) (t := σ.1 28) dX12_expression_1 (by decide) fl12_304 rfl (rfl) ?_
  have g1 := RG.s hR 28
  refine tm_bipush dX12_expression_4 (by decide) ?_
  refine tm_icmp_ne (tgt := 14) dX12_expression_6 (by decide) ⟨by omega, by omega⟩ ⟨by decide, by decide⟩ (fun h2 => ?_) (fun h2 => ?_)
  · refine tm_aload_n dX12_expression_14 rfl 0 rfl ?_
    refine tm_dup dX12_expression_15 rfl ?_
    refine tm_getS (k := 28) (t := σ.1 28) dX12_expression_16 (by decide) fl12_304 rfl (rfl) ?_
    have g3 := RG.s hR 28
    refine tm_iconst dX12_expression_19 ?_
    refine tm_iadd dX12_expression_20 ?_
    refine tm_putS (k := 28) (v := (σ.1 28) + 1) lay_12 dX12_expression_21 (by decide) fl12_304 rfl (tyX12_ok 28 (by decide)) rfl rfl rfl ?_
    have tr1 := tr0.chg (show Fr [28] [] [] σ (sS 28 ((σ.1 28) + 1) σ) from (Fr.rfl.S (by decide))) (fun q => g2 (by omega) ⟨rfl, rfl, rfl, rfl⟩)
    refine tm_aload_n dX12_expression_24 rfl 0 rfl ?_
    refine tm_callV (M := m_X12_expression) (pc := 25) (ix := 307) (M' := m_X12_sum) (As := []) (rest := []) dX12_expression_25 ok_X12_sum im_X12_sum se_X12_sum ml12_307 np_X12_sum rfl rfl (Nat.le_of_ble_eq_true rfl) (Nat.le_of_ble_eq_true rfl) rfl (c_X12_sum (d) (σ := (sS 28 ((σ.1 28) + 1) σ))  hce (hR.S (by omega)) tr1.2.2.1 tr1.nn (by show σ.1 28 + 1 = _; omega)) (fun r4 σ5 hp => ?_)
    obtain ⟨v6, rfl, f7, f8, f9, f10, f11, f12, f13⟩ := hp
    show Tm _ _ 28 b σ5 [(0, .ref b)] [.int (iI v6)] _
    have xp0 := f7
    have xp1 := f8
    have xp2 := f9
    have xp3 := f10
    have xp4 := f11
    have xp5 := f12
    have xp6 := f13
    have e28o : σ5.1 28 = σ.1 28 + 1 := xp6
    refine tm_istore_n (L' := [(1, .int (iI v6)), (0, .ref b)]) dX12_expression_28 rfl (by decide) rfl ?_
    refine tm_iload_n dX12_expression_29 rfl 0 rfl ?_
    refine tm_if_eq (tgt := 106) dX12_expression_30 (by decide) ⟨by omega, by omega⟩ (fun h14 => ?_) (fun h14 => ?_)
    · refine tm_aload_n dX12_expression_106 rfl 1 rfl ?_
      refine tm_dup dX12_expression_107 rfl ?_
      refine tm_getS (k := 28) (t := σ5.1 28) dX12_expression_108 (by decide) fl12_304 rfl (rfl) ?_
      have g15 := RG.s f9 28
      refine tm_iconst dX12_expression_111 ?_
      refine tm_isub dX12_expression_112 ?_
      refine tm_putS (k := 28) (v := (σ5.1 28) - 1) lay_12 dX12_expression_113 (by decide) fl12_304 rfl (tyX12_ok 28 (by decide)) rfl rfl rfl ?_
      refine tm_iload_n dX12_expression_116 rfl 0 rfl ?_
      exact tm_zret (v := v6) rfl (by omega) dX12_expression_117 (⟨_, rfl, by omega, (((Fr.rfl.S (by decide)).trans (Fr.sub f8 (by decide) (by decide) (by decide))).S (by decide)), (f9.S (by omega)), (tr1.fail xp3 (xp5.2 (by omega))).1.trans (PBF.nop (tr1.fail xp3 (xp5.2 (by omega))).1.2.2.1 (show Fr [28] [] [] σ5 (sS 28 ((σ5.1 28) - 1) σ5) from (Fr.rfl.S (by decide))) (by decide) (by decide) (by decide)), fun q => absurd q (by omega), by rw [show v6 = 0 by omega]; exact PRS.no (fun q => ((tr1.fail xp3 (xp5.2 (by omega))).2 q).mv ((show Fr [28] [] [] σ5 (sS 28 ((σ5.1 28) - 1) σ5) from (Fr.rfl.S (by decide))).1 26 (by decide)) ((show Fr [28] [] [] σ5 (sS 28 ((σ5.1 28) - 1) σ5) from (Fr.rfl.S (by decide))).1 27 (by decide))), by show σ5.1 28 - 1 = σ.1 28; omega⟩)
    · have tr2 := tr1.sub xp3 (xp4 (by omega)) (xp5.1 (by omega))
      have gta := (xp4 (by omega)).2.2.1
      have e28a : σ5.1 28 = σ.1 28 + 1 := (xp4 (by omega)).2.2.2.2
      have rda := tr2.2.2.1
      unfold RDY at rda
      refine tm_aload_n dX12_expression_33 rfl 1 rfl ?_
      refine tm_bipush dX12_expression_34 (by decide) ?_
      refine tm_callV (M := m_X12_expression) (pc := 36) (ix := 258) (M' := m_X12_isSign) (As := [.int (iI 61)]) (rest := []) dX12_expression_36 ok_X12_isSign im_X12_isSign se_X12_isSign ml12_258 np_X12_isSign rfl rfl (Nat.le_of_ble_eq_true rfl) (Nat.le_of_ble_eq_true rfl) rfl (c2_X12_isSign (d + 4 * lv + 10) (σ := σ5) (c := 61) f9 (by omega)) (fun r16 σ17 hp => ?_)
      obtain ⟨v18, rfl, rfl, f19, f20, f21⟩ := hp
      show Tm _ _ 39 b σ5 [(1, .int (iI v6)), (0, .ref b)] [.int (iI v18)] _
      have i61 := f20
      have n61_ := f21
      refine tm_if_ne (tgt := 51) dX12_expression_39 (by decide) ⟨by omega, by omega⟩ (fun h22 => ?_) (fun h22 => ?_)
      · refine tm_aload_n dX12_expression_51 rfl 1 rfl ?_
        refine tm_bipush dX12_expression_52 (by decide) ?_
        refine tm_callV (M := m_X12_expression) (pc := 54) (ix := 258) (M' := m_X12_isSign) (As := [.int (iI 61)]) (rest := []) dX12_expression_54 ok_X12_isSign im_X12_isSign se_X12_isSign ml12_258 np_X12_isSign rfl rfl (Nat.le_of_ble_eq_true rfl) (Nat.le_of_ble_eq_true rfl) rfl (c2_X12_isSign (d + 4 * lv + 10) (σ := σ5) (c := 61) f9 (by omega)) (fun r23 σ24 hp => ?_)
        obtain ⟨v25, rfl, rfl, f26, f27, f28⟩ := hp
        show Tm _ _ 57 b σ5 [(1, .int (iI v6)), (0, .ref b)] [.int (iI v25)] _
        refine tm_if_eq (tgt := 64) dX12_expression_57 (by decide) ⟨by omega, by omega⟩ (fun h29 => ?_) (fun h29 => ?_)
        · refine tm_iconst dX12_expression_64 ?_
          refine tm_istore_n (L' := [(2, .int (iI 5)), (1, .int (iI v6)), (0, .ref b)]) dX12_expression_65 rfl (by decide) rfl ?_
          refine tm_aload_n dX12_expression_66 rfl 2 rfl ?_
          refine tm_getS (k := 39) (t := σ5.1 39) dX12_expression_67 (by decide) fl12_285 rfl (rfl) ?_
          have g30 := RG.s f9 39
          refine tm_istore_n (L' := [(3, .int (iI (σ5.1 39))), (2, .int (iI 5)), (1, .int (iI v6)), (0, .ref b)]) dX12_expression_70 rfl (by decide) rfl ?_
          refine tm_aload_n dX12_expression_71 rfl 3 rfl ?_
          refine tm_getS (k := 40) (t := σ5.1 40) dX12_expression_72 (by decide) fl12_288 rfl (rfl) ?_
          have g31 := RG.s f9 40
          refine tm_istore (L' := [(4, .int (iI (σ5.1 40))), (3, .int (iI (σ5.1 39))), (2, .int (iI 5)), (1, .int (iI v6)), (0, .ref b)]) dX12_expression_75 (by decide) rfl ?_
          refine tm_aload_n dX12_expression_77 rfl 4 rfl ?_
          refine tm_callV (M := m_X12_expression) (pc := 78) (ix := 265) (M' := m_X12_advance) (As := []) (rest := []) dX12_expression_78 ok_X12_advance im_X12_advance se_X12_advance ml12_265 np_X12_advance rfl rfl (Nat.le_of_ble_eq_true rfl) (Nat.le_of_ble_eq_true rfl) rfl (c_X12_advance (d + 4 * lv + 6) (σ := σ5)  f9 (by have z := tr2.2.2.1.1.1; omega)) (fun r32 σ33 hp => ?_)
          obtain ⟨rfl, f35, f36, f37, f38, f39⟩ := hp
          show Tm _ _ 81 b σ33 [(4, .int (iI (σ5.1 40))), (3, .int (iI (σ5.1 39))), (2, .int (iI 5)), (1, .int (iI v6)), (0, .ref b)] [] _
          have tr3 := tr2.adv f36 f38 f39 (by first | (have z := (i61 (by omega)).1; omega) | (have z := (i60 (by omega)).1; omega)) (fun q => g6y (by first | exact Or.inl (i61 (by omega)) | exact Or.inr (i60 (by omega))) f35)
          have e28b : σ33.1 28 = σ.1 28 + 1 := by rw [f36.1 28 (by decide)]; exact e28a
          have m34a := f36.1 34 (by decide)
          refine tm_aload_n dX12_expression_81 rfl 4 rfl ?_
          refine tm_callV (M := m_X12_expression) (pc := 82) (ix := 307) (M' := m_X12_sum) (As := []) (rest := []) dX12_expression_82 ok_X12_sum im_X12_sum se_X12_sum ml12_307 np_X12_sum rfl rfl (Nat.le_of_ble_eq_true rfl) (Nat.le_of_ble_eq_true rfl) rfl (c_X12_sum (d) (σ := σ33)  hce f37 tr3.2.2.1 tr3.nn (by omega)) (fun r40 σ41 hp => ?_)
          obtain ⟨v42, rfl, f43, f44, f45, f46, f47, f48, f49⟩ := hp
          show Tm _ _ 85 b σ41 [(4, .int (iI (σ5.1 40))), (3, .int (iI (σ5.1 39))), (2, .int (iI 5)), (1, .int (iI v6)), (0, .ref b)] [.int (iI v42)] _
          have yp0 := f43
          have yp1 := f44
          have yp2 := f45
          have yp3 := f46
          have yp4 := f47
          have yp5 := f48
          have yp6 := f49
          have e28y : σ41.1 28 = σ.1 28 + 1 := yp6.trans e28b
          refine tm_istore_n (L' := [(1, .int (iI v42)), (4, .int (iI (σ5.1 40))), (3, .int (iI (σ5.1 39))), (2, .int (iI 5)), (0, .ref b)]) dX12_expression_85 rfl (by decide) rfl ?_
          refine tm_iload_n dX12_expression_86 rfl 0 rfl ?_
          refine tm_if_eq (tgt := 106) dX12_expression_87 (by decide) ⟨by omega, by omega⟩ (fun h50 => ?_) (fun h50 => ?_)
          · refine tm_aload_n dX12_expression_106 rfl 4 rfl ?_
            refine tm_dup dX12_expression_107 rfl ?_
            refine tm_getS (k := 28) (t := σ41.1 28) dX12_expression_108 (by decide) fl12_304 rfl (rfl) ?_
            have g51 := RG.s f45 28
            refine tm_iconst dX12_expression_111 ?_
            refine tm_isub dX12_expression_112 ?_
            refine tm_putS (k := 28) (v := (σ41.1 28) - 1) lay_12 dX12_expression_113 (by decide) fl12_304 rfl (tyX12_ok 28 (by decide)) rfl rfl rfl ?_
            refine tm_iload_n dX12_expression_116 rfl 0 rfl ?_
            exact tm_zret (v := v42) rfl (by omega) dX12_expression_117 (⟨_, rfl, by omega, (((((Fr.rfl.S (by decide)).trans (Fr.sub f8 (by decide) (by decide) (by decide))).trans (Fr.sub f36 (by decide) (by decide) (by decide))).trans (Fr.sub f44 (by decide) (by decide) (by decide))).S (by decide)), (f45.S (by omega)), (tr3.fail yp3 (yp5.2 (by omega))).1.trans (PBF.nop (tr3.fail yp3 (yp5.2 (by omega))).1.2.2.1 (show Fr [28] [] [] σ41 (sS 28 ((σ41.1 28) - 1) σ41) from (Fr.rfl.S (by decide))) (by decide) (by decide) (by decide)), fun q => absurd q (by omega), by rw [show v42 = 0 by omega]; exact PRS.no (fun q => ((tr3.fail yp3 (yp5.2 (by omega))).2 q).mv ((show Fr [28] [] [] σ41 (sS 28 ((σ41.1 28) - 1) σ41) from (Fr.rfl.S (by decide))).1 26 (by decide)) ((show Fr [28] [] [] σ41 (sS 28 ((σ41.1 28) - 1) σ41) from (Fr.rfl.S (by decide))).1 27 (by decide))), by show σ41.1 28 - 1 = σ.1 28; omega⟩)
          · have tr4 := tr3.sub yp3 (yp4 (by omega)) (yp5.1 (by omega))
            have gt := (yp4 (by omega)).2.2.1
            have gtz := gta
            unfold GTm at gtz
            have e28c : σ41.1 28 = σ.1 28 + 1 := by rw [(yp4 (by omega)).2.2.2.2]; exact e28b
            have m34b := yp3.2.2.2.2.2.1
            have rdj := tr4.2.2.1.2
            have tkj := tr4.2.2.1.1.1
            refine tm_aload_n dX12_expression_90 rfl 4 rfl ?_
            refine tm_iload_n dX12_expression_91 rfl 3 rfl ?_
            refine tm_iload_n dX12_expression_92 rfl 2 rfl ?_
            refine tm_iload dX12_expression_93 1 rfl ?_
            refine tm_aload_n dX12_expression_95 rfl 4 rfl ?_
            refine tm_getS (k := 39) (t := σ41.1 39) dX12_expression_96 (by decide) fl12_285 rfl (rfl) ?_
            have g52 := RG.s f45 39
            refine tm_aload_n dX12_expression_99 rfl 4 rfl ?_
            refine tm_getS (k := 40) (t := σ41.1 40) dX12_expression_100 (by decide) fl12_288 rfl (rfl) ?_
            have g53 := RG.s f45 40
            refine tm_callV (M := m_X12_expression) (pc := 103) (ix := 310) (M' := m_X12_joins) (As := [.int (iI 5), .int (iI (σ5.1 39)), .int (iI (σ5.1 40)), .int (iI (σ41.1 39)), .int (iI (σ41.1 40))]) (rest := []) dX12_expression_103 ok_X12_joins im_X12_joins se_X12_joins ml12_310 np_X12_joins rfl rfl (Nat.le_of_ble_eq_true rfl) (Nat.le_of_ble_eq_true rfl) rfl (c_X12_joins (d + 4 * lv + 8) (σ := σ41) (k := 5) (ak := σ5.1 39) (a := σ5.1 40) (bk := σ41.1 39) (c := σ41.1 40) f45 (by omega) (by decide) (by omega) (by have z := gt; unfold GTm at z; omega) (by omega) (by omega) (by omega)) (fun r54 σ55 hp => ?_)
            obtain ⟨rfl, f57, f58, f59, f60, f61⟩ := hp
            show Tm _ _ 106 b σ55 [(1, .int (iI v42)), (4, .int (iI (σ5.1 40))), (3, .int (iI (σ5.1 39))), (2, .int (iI 5)), (0, .ref b)] [] _
            have tr5 := tr4.join f57 ⟨f59.1, f59.2.1⟩ f60 f61 (by decide) hrd
            have gtf : GTm σ55 := by unfold GTm; rw [f59.2.2.1, f59.2.2.2, f59.1]; exact ⟨Or.inr rfl, fun _ => by omega⟩
            have e28f : σ55.1 28 = σ.1 28 + 1 := by rw [f57.1 28 (by decide)]; exact e28c
            refine tm_aload_n dX12_expression_106 rfl 4 rfl ?_
            refine tm_dup dX12_expression_107 rfl ?_
            refine tm_getS (k := 28) (t := σ41.1 28) dX12_expression_108 (by decide) fl12_304 rfl (rs_F f57 (by decide) (rfl)) ?_
            have g62 := RG.s f45 28
            refine tm_iconst dX12_expression_111 ?_
            refine tm_isub dX12_expression_112 ?_
            refine tm_putS (k := 28) (v := (σ41.1 28) - 1) lay_12 dX12_expression_113 (by decide) fl12_304 rfl (tyX12_ok 28 (by decide)) rfl rfl rfl ?_
            have tr6 := tr5.chg (show Fr [28] [] [] σ55 (sS 28 ((σ41.1 28) - 1) σ55) from (Fr.rfl.S (by decide))) (fun q => g7 ⟨rfl, by rw [show σ55.1 28 = σ41.1 28 from rs_F f57 (by decide) (rfl)]; rfl, rfl, rfl⟩)
            refine tm_iload_n dX12_expression_116 rfl 0 rfl ?_
            exact tm_zret (v := v42) rfl (by omega) dX12_expression_117 (⟨_, rfl, by omega, ((((((Fr.rfl.S (by decide)).trans (Fr.sub f8 (by decide) (by decide) (by decide))).trans (Fr.sub f36 (by decide) (by decide) (by decide))).trans (Fr.sub f44 (by decide) (by decide) (by decide))).trans (Fr.sub f57 (by decide) (by decide) (by decide))).S (by decide)), (f58.S (by omega)), tr6.1, fun _ => tr6.exs (by decide) (gtf.fr (show Fr [28] [] [] σ55 (sS 28 ((σ41.1 28) - 1) σ55) from (Fr.rfl.S (by decide))) (by decide)) (by show σ41.1 28 - 1 = σ.1 28; omega), by rw [show v42 = 1 by omega]; exact tr6.prs, by show σ41.1 28 - 1 = σ.1 28; omega⟩)
        · refine tm_iconst dX12_expression_60 ?_
          refine tm_goto (tgt := 65) dX12_expression_61 (by decide) ?_
          refine tm_istore_n (L' := [(2, .int (iI 4)), (1, .int (iI v6)), (0, .ref b)]) dX12_expression_65 rfl (by decide) rfl ?_
          refine tm_aload_n dX12_expression_66 rfl 2 rfl ?_
          refine tm_getS (k := 39) (t := σ5.1 39) dX12_expression_67 (by decide) fl12_285 rfl (rfl) ?_
          have g63 := RG.s f9 39
          refine tm_istore_n (L' := [(3, .int (iI (σ5.1 39))), (2, .int (iI 4)), (1, .int (iI v6)), (0, .ref b)]) dX12_expression_70 rfl (by decide) rfl ?_
          refine tm_aload_n dX12_expression_71 rfl 3 rfl ?_
          refine tm_getS (k := 40) (t := σ5.1 40) dX12_expression_72 (by decide) fl12_288 rfl (rfl) ?_
          have g64 := RG.s f9 40
          refine tm_istore (L' := [(4, .int (iI (σ5.1 40))), (3, .int (iI (σ5.1 39))), (2, .int (iI 4)), (1, .int (iI v6)), (0, .ref b)]) dX12_expression_75 (by decide) rfl ?_
          refine tm_aload_n dX12_expression_77 rfl 4 rfl ?_
          refine tm_callV (M := m_X12_expression) (pc := 78) (ix := 265) (M' := m_X12_advance) (As := []) (rest := []) dX12_expression_78 ok_X12_advance im_X12_advance se_X12_advance ml12_265 np_X12_advance rfl rfl (Nat.le_of_ble_eq_true rfl) (Nat.le_of_ble_eq_true rfl) rfl (c_X12_advance (d + 4 * lv + 6) (σ := σ5)  f9 (by have z := tr2.2.2.1.1.1; omega)) (fun r65 σ66 hp => ?_)
          obtain ⟨rfl, f68, f69, f70, f71, f72⟩ := hp
          show Tm _ _ 81 b σ66 [(4, .int (iI (σ5.1 40))), (3, .int (iI (σ5.1 39))), (2, .int (iI 4)), (1, .int (iI v6)), (0, .ref b)] [] _
          have tr7 := tr2.adv f69 f71 f72 (by first | (have z := (i61 (by omega)).1; omega) | (have z := (i60 (by omega)).1; omega)) (fun q => g6y (by first | exact Or.inl (i61 (by omega)) | exact Or.inr (i60 (by omega))) f68)
          have e28b : σ66.1 28 = σ.1 28 + 1 := by rw [f69.1 28 (by decide)]; exact e28a
          have m34a := f69.1 34 (by decide)
          refine tm_aload_n dX12_expression_81 rfl 4 rfl ?_
          refine tm_callV (M := m_X12_expression) (pc := 82) (ix := 307) (M' := m_X12_sum) (As := []) (rest := []) dX12_expression_82 ok_X12_sum im_X12_sum se_X12_sum ml12_307 np_X12_sum rfl rfl (Nat.le_of_ble_eq_true rfl) (Nat.le_of_ble_eq_true rfl) rfl (c_X12_sum (d) (σ := σ66)  hce f70 tr7.2.2.1 tr7.nn (by omega)) (fun r73 σ74 hp => ?_)
          obtain ⟨v75, rfl, f76, f77, f78, f79, f80, f81, f82⟩ := hp
          show Tm _ _ 85 b σ74 [(4, .int (iI (σ5.1 40))), (3, .int (iI (σ5.1 39))), (2, .int (iI 4)), (1, .int (iI v6)), (0, .ref b)] [.int (iI v75)] _
          have yp0 := f76
          have yp1 := f77
          have yp2 := f78
          have yp3 := f79
          have yp4 := f80
          have yp5 := f81
          have yp6 := f82
          have e28y : σ74.1 28 = σ.1 28 + 1 := yp6.trans e28b
          refine tm_istore_n (L' := [(1, .int (iI v75)), (4, .int (iI (σ5.1 40))), (3, .int (iI (σ5.1 39))), (2, .int (iI 4)), (0, .ref b)]) dX12_expression_85 rfl (by decide) rfl ?_
          refine tm_iload_n dX12_expression_86 rfl 0 rfl ?_
          refine tm_if_eq (tgt := 106) dX12_expression_87 (by decide) ⟨by omega, by omega⟩ (fun h83 => ?_) (fun h83 => ?_)
          · refine tm_aload_n dX12_expression_106 rfl 4 rfl ?_
            refine tm_dup dX12_expression_107 rfl ?_
            refine tm_getS (k := 28) (t := σ74.1 28) dX12_expression_108 (by decide) fl12_304 rfl (rfl) ?_
            have g84 := RG.s f78 28
            refine tm_iconst dX12_expression_111 ?_
            refine tm_isub dX12_expression_112 ?_
            refine tm_putS (k := 28) (v := (σ74.1 28) - 1) lay_12 dX12_expression_113 (by decide) fl12_304 rfl (tyX12_ok 28 (by decide)) rfl rfl rfl ?_
            refine tm_iload_n dX12_expression_116 rfl 0 rfl ?_
            exact tm_zret (v := v75) rfl (by omega) dX12_expression_117 (⟨_, rfl, by omega, (((((Fr.rfl.S (by decide)).trans (Fr.sub f8 (by decide) (by decide) (by decide))).trans (Fr.sub f69 (by decide) (by decide) (by decide))).trans (Fr.sub f77 (by decide) (by decide) (by decide))).S (by decide)), (f78.S (by omega)), (tr7.fail yp3 (yp5.2 (by omega))).1.trans (PBF.nop (tr7.fail yp3 (yp5.2 (by omega))).1.2.2.1 (show Fr [28] [] [] σ74 (sS 28 ((σ74.1 28) - 1) σ74) from (Fr.rfl.S (by decide))) (by decide) (by decide) (by decide)), fun q => absurd q (by omega), by rw [show v75 = 0 by omega]; exact PRS.no (fun q => ((tr7.fail yp3 (yp5.2 (by omega))).2 q).mv ((show Fr [28] [] [] σ74 (sS 28 ((σ74.1 28) - 1) σ74) from (Fr.rfl.S (by decide))).1 26 (by decide)) ((show Fr [28] [] [] σ74 (sS 28 ((σ74.1 28) - 1) σ74) from (Fr.rfl.S (by decide))).1 27 (by decide))), by show σ74.1 28 - 1 = σ.1 28; omega⟩)
          · have tr8 := tr7.sub yp3 (yp4 (by omega)) (yp5.1 (by omega))
            have gt := (yp4 (by omega)).2.2.1
            have gtz := gta
            unfold GTm at gtz
            have e28c : σ74.1 28 = σ.1 28 + 1 := by rw [(yp4 (by omega)).2.2.2.2]; exact e28b
            have m34b := yp3.2.2.2.2.2.1
            have rdj := tr8.2.2.1.2
            have tkj := tr8.2.2.1.1.1
            refine tm_aload_n dX12_expression_90 rfl 4 rfl ?_
            refine tm_iload_n dX12_expression_91 rfl 3 rfl ?_
            refine tm_iload_n dX12_expression_92 rfl 2 rfl ?_
            refine tm_iload dX12_expression_93 1 rfl ?_
            refine tm_aload_n dX12_expression_95 rfl 4 rfl ?_
            refine tm_getS (k := 39) (t := σ74.1 39) dX12_expression_96 (by decide) fl12_285 rfl (rfl) ?_
            have g85 := RG.s f78 39
            refine tm_aload_n dX12_expression_99 rfl 4 rfl ?_
            refine tm_getS (k := 40) (t := σ74.1 40) dX12_expression_100 (by decide) fl12_288 rfl (rfl) ?_
            have g86 := RG.s f78 40
            refine tm_callV (M := m_X12_expression) (pc := 103) (ix := 310) (M' := m_X12_joins) (As := [.int (iI 4), .int (iI (σ5.1 39)), .int (iI (σ5.1 40)), .int (iI (σ74.1 39)), .int (iI (σ74.1 40))]) (rest := []) dX12_expression_103 ok_X12_joins im_X12_joins se_X12_joins ml12_310 np_X12_joins rfl rfl (Nat.le_of_ble_eq_true rfl) (Nat.le_of_ble_eq_true rfl) rfl (c_X12_joins (d + 4 * lv + 8) (σ := σ74) (k := 4) (ak := σ5.1 39) (a := σ5.1 40) (bk := σ74.1 39) (c := σ74.1 40) f78 (by omega) (by decide) (by omega) (by have z := gt; unfold GTm at z; omega) (by omega) (by omega) (by omega)) (fun r87 σ88 hp => ?_)
            obtain ⟨rfl, f90, f91, f92, f93, f94⟩ := hp
            show Tm _ _ 106 b σ88 [(1, .int (iI v75)), (4, .int (iI (σ5.1 40))), (3, .int (iI (σ5.1 39))), (2, .int (iI 4)), (0, .ref b)] [] _
            have tr9 := tr8.join f90 ⟨f92.1, f92.2.1⟩ f93 f94 (by decide) hrd
            have gtf : GTm σ88 := by unfold GTm; rw [f92.2.2.1, f92.2.2.2, f92.1]; exact ⟨Or.inr rfl, fun _ => by omega⟩
            have e28f : σ88.1 28 = σ.1 28 + 1 := by rw [f90.1 28 (by decide)]; exact e28c
            refine tm_aload_n dX12_expression_106 rfl 4 rfl ?_
            refine tm_dup dX12_expression_107 rfl ?_
            refine tm_getS (k := 28) (t := σ74.1 28) dX12_expression_108 (by decide) fl12_304 rfl (rs_F f90 (by decide) (rfl)) ?_
            have g95 := RG.s f78 28
            refine tm_iconst dX12_expression_111 ?_
            refine tm_isub dX12_expression_112 ?_
            refine tm_putS (k := 28) (v := (σ74.1 28) - 1) lay_12 dX12_expression_113 (by decide) fl12_304 rfl (tyX12_ok 28 (by decide)) rfl rfl rfl ?_
            have tr10 := tr9.chg (show Fr [28] [] [] σ88 (sS 28 ((σ74.1 28) - 1) σ88) from (Fr.rfl.S (by decide))) (fun q => g7 ⟨rfl, by rw [show σ88.1 28 = σ74.1 28 from rs_F f90 (by decide) (rfl)]; rfl, rfl, rfl⟩)
            refine tm_iload_n dX12_expression_116 rfl 0 rfl ?_
            exact tm_zret (v := v75) rfl (by omega) dX12_expression_117 (⟨_, rfl, by omega, ((((((Fr.rfl.S (by decide)).trans (Fr.sub f8 (by decide) (by decide) (by decide))).trans (Fr.sub f69 (by decide) (by decide) (by decide))).trans (Fr.sub f77 (by decide) (by decide) (by decide))).trans (Fr.sub f90 (by decide) (by decide) (by decide))).S (by decide)), (f91.S (by omega)), tr10.1, fun _ => tr10.exs (by decide) (gtf.fr (show Fr [28] [] [] σ88 (sS 28 ((σ74.1 28) - 1) σ88) from (Fr.rfl.S (by decide))) (by decide)) (by show σ74.1 28 - 1 = σ.1 28; omega), by rw [show v75 = 1 by omega]; exact tr10.prs, by show σ74.1 28 - 1 = σ.1 28; omega⟩)
      · refine tm_aload_n dX12_expression_42 rfl 1 rfl ?_
        refine tm_bipush dX12_expression_43 (by decide) ?_
        refine tm_callV (M := m_X12_expression) (pc := 45) (ix := 258) (M' := m_X12_isSign) (As := [.int (iI 60)]) (rest := []) dX12_expression_45 ok_X12_isSign im_X12_isSign se_X12_isSign ml12_258 np_X12_isSign rfl rfl (Nat.le_of_ble_eq_true rfl) (Nat.le_of_ble_eq_true rfl) rfl (c2_X12_isSign (d + 4 * lv + 10) (σ := σ5) (c := 60) f9 (by omega)) (fun r96 σ97 hp => ?_)
        obtain ⟨v98, rfl, rfl, f99, f100, f101⟩ := hp
        show Tm _ _ 48 b σ5 [(1, .int (iI v6)), (0, .ref b)] [.int (iI v98)] _
        have i60 := f100
        have n60_ := f101
        refine tm_if_eq (tgt := 106) dX12_expression_48 (by decide) ⟨by omega, by omega⟩ (fun h102 => ?_) (fun h102 => ?_)
        · have tr11 := tr2.nxt (fun q => g6n (n61_ (by omega)) (n60_ (by omega)))
          have gtf := gta
          have e28f := e28a
          refine tm_aload_n dX12_expression_106 rfl 1 rfl ?_
          refine tm_dup dX12_expression_107 rfl ?_
          refine tm_getS (k := 28) (t := σ5.1 28) dX12_expression_108 (by decide) fl12_304 rfl (rfl) ?_
          have g103 := RG.s f9 28
          refine tm_iconst dX12_expression_111 ?_
          refine tm_isub dX12_expression_112 ?_
          refine tm_putS (k := 28) (v := (σ5.1 28) - 1) lay_12 dX12_expression_113 (by decide) fl12_304 rfl (tyX12_ok 28 (by decide)) rfl rfl rfl ?_
          have tr12 := tr11.chg (show Fr [28] [] [] σ5 (sS 28 ((σ5.1 28) - 1) σ5) from (Fr.rfl.S (by decide))) (fun q => g7 ⟨rfl, by rw [show σ5.1 28 = σ5.1 28 from rfl]; rfl, rfl, rfl⟩)
          refine tm_iload_n dX12_expression_116 rfl 0 rfl ?_
          exact tm_zret (v := v6) rfl (by omega) dX12_expression_117 (⟨_, rfl, by omega, (((Fr.rfl.S (by decide)).trans (Fr.sub f8 (by decide) (by decide) (by decide))).S (by decide)), (f9.S (by omega)), tr12.1, fun _ => tr12.exs (by decide) (gtf.fr (show Fr [28] [] [] σ5 (sS 28 ((σ5.1 28) - 1) σ5) from (Fr.rfl.S (by decide))) (by decide)) (by show σ5.1 28 - 1 = σ.1 28; omega), by rw [show v6 = 1 by omega]; exact tr12.prs, by show σ5.1 28 - 1 = σ.1 28; omega⟩)
        · refine tm_aload_n dX12_expression_51 rfl 1 rfl ?_
          refine tm_bipush dX12_expression_52 (by decide) ?_
          refine tm_callV (M := m_X12_expression) (pc := 54) (ix := 258) (M' := m_X12_isSign) (As := [.int (iI 61)]) (rest := []) dX12_expression_54 ok_X12_isSign im_X12_isSign se_X12_isSign ml12_258 np_X12_isSign rfl rfl (Nat.le_of_ble_eq_true rfl) (Nat.le_of_ble_eq_true rfl) rfl (c2_X12_isSign (d + 4 * lv + 10) (σ := σ5) (c := 61) f9 (by omega)) (fun r104 σ105 hp => ?_)
          obtain ⟨v106, rfl, rfl, f107, f108, f109⟩ := hp
          show Tm _ _ 57 b σ5 [(1, .int (iI v6)), (0, .ref b)] [.int (iI v106)] _
          refine tm_if_eq (tgt := 64) dX12_expression_57 (by decide) ⟨by omega, by omega⟩ (fun h110 => ?_) (fun h110 => ?_)
          · refine tm_iconst dX12_expression_64 ?_
            refine tm_istore_n (L' := [(2, .int (iI 5)), (1, .int (iI v6)), (0, .ref b)]) dX12_expression_65 rfl (by decide) rfl ?_
            refine tm_aload_n dX12_expression_66 rfl 2 rfl ?_
            refine tm_getS (k := 39) (t := σ5.1 39) dX12_expression_67 (by decide) fl12_285 rfl (rfl) ?_
            have g111 := RG.s f9 39
            refine tm_istore_n (L' := [(3, .int (iI (σ5.1 39))), (2, .int (iI 5)), (1, .int (iI v6)), (0, .ref b)]) dX12_expression_70 rfl (by decide) rfl ?_
            refine tm_aload_n dX12_expression_71 rfl 3 rfl ?_
            refine tm_getS (k := 40) (t := σ5.1 40) dX12_expression_72 (by decide) fl12_288 rfl (rfl) ?_
            have g112 := RG.s f9 40
            refine tm_istore (L' := [(4, .int (iI (σ5.1 40))), (3, .int (iI (σ5.1 39))), (2, .int (iI 5)), (1, .int (iI v6)), (0, .ref b)]) dX12_expression_75 (by decide) rfl ?_
            refine tm_aload_n dX12_expression_77 rfl 4 rfl ?_
            refine tm_callV (M := m_X12_expression) (pc := 78) (ix := 265) (M' := m_X12_advance) (As := []) (rest := []) dX12_expression_78 ok_X12_advance im_X12_advance se_X12_advance ml12_265 np_X12_advance rfl rfl (Nat.le_of_ble_eq_true rfl) (Nat.le_of_ble_eq_true rfl) rfl (c_X12_advance (d + 4 * lv + 6) (σ := σ5)  f9 (by have z := tr2.2.2.1.1.1; omega)) (fun r113 σ114 hp => ?_)
            obtain ⟨rfl, f116, f117, f118, f119, f120⟩ := hp
            show Tm _ _ 81 b σ114 [(4, .int (iI (σ5.1 40))), (3, .int (iI (σ5.1 39))), (2, .int (iI 5)), (1, .int (iI v6)), (0, .ref b)] [] _
            have tr13 := tr2.adv f117 f119 f120 (by first | (have z := (i61 (by omega)).1; omega) | (have z := (i60 (by omega)).1; omega)) (fun q => g6y (by first | exact Or.inl (i61 (by omega)) | exact Or.inr (i60 (by omega))) f116)
            have e28b : σ114.1 28 = σ.1 28 + 1 := by rw [f117.1 28 (by decide)]; exact e28a
            have m34a := f117.1 34 (by decide)
            refine tm_aload_n dX12_expression_81 rfl 4 rfl ?_
            refine tm_callV (M := m_X12_expression) (pc := 82) (ix := 307) (M' := m_X12_sum) (As := []) (rest := []) dX12_expression_82 ok_X12_sum im_X12_sum se_X12_sum ml12_307 np_X12_sum rfl rfl (Nat.le_of_ble_eq_true rfl) (Nat.le_of_ble_eq_true rfl) rfl (c_X12_sum (d) (σ := σ114)  hce f118 tr13.2.2.1 tr13.nn (by omega)) (fun r121 σ122 hp => ?_)
            obtain ⟨v123, rfl, f124, f125, f126, f127, f128, f129, f130⟩ := hp
            show Tm _ _ 85 b σ122 [(4, .int (iI (σ5.1 40))), (3, .int (iI (σ5.1 39))), (2, .int (iI 5)), (1, .int (iI v6)), (0, .ref b)] [.int (iI v123)] _
            have yp0 := f124
            have yp1 := f125
            have yp2 := f126
            have yp3 := f127
            have yp4 := f128
            have yp5 := f129
            have yp6 := f130
            have e28y : σ122.1 28 = σ.1 28 + 1 := yp6.trans e28b
            refine tm_istore_n (L' := [(1, .int (iI v123)), (4, .int (iI (σ5.1 40))), (3, .int (iI (σ5.1 39))), (2, .int (iI 5)), (0, .ref b)]) dX12_expression_85 rfl (by decide) rfl ?_
            refine tm_iload_n dX12_expression_86 rfl 0 rfl ?_
            refine tm_if_eq (tgt := 106) dX12_expression_87 (by decide) ⟨by omega, by omega⟩ (fun h131 => ?_) (fun h131 => ?_)
            · refine tm_aload_n dX12_expression_106 rfl 4 rfl ?_
              refine tm_dup dX12_expression_107 rfl ?_
              refine tm_getS (k := 28) (t := σ122.1 28) dX12_expression_108 (by decide) fl12_304 rfl (rfl) ?_
              have g132 := RG.s f126 28
              refine tm_iconst dX12_expression_111 ?_
              refine tm_isub dX12_expression_112 ?_
              refine tm_putS (k := 28) (v := (σ122.1 28) - 1) lay_12 dX12_expression_113 (by decide) fl12_304 rfl (tyX12_ok 28 (by decide)) rfl rfl rfl ?_
              refine tm_iload_n dX12_expression_116 rfl 0 rfl ?_
              exact tm_zret (v := v123) rfl (by omega) dX12_expression_117 (⟨_, rfl, by omega, (((((Fr.rfl.S (by decide)).trans (Fr.sub f8 (by decide) (by decide) (by decide))).trans (Fr.sub f117 (by decide) (by decide) (by decide))).trans (Fr.sub f125 (by decide) (by decide) (by decide))).S (by decide)), (f126.S (by omega)), (tr13.fail yp3 (yp5.2 (by omega))).1.trans (PBF.nop (tr13.fail yp3 (yp5.2 (by omega))).1.2.2.1 (show Fr [28] [] [] σ122 (sS 28 ((σ122.1 28) - 1) σ122) from (Fr.rfl.S (by decide))) (by decide) (by decide) (by decide)), fun q => absurd q (by omega), by rw [show v123 = 0 by omega]; exact PRS.no (fun q => ((tr13.fail yp3 (yp5.2 (by omega))).2 q).mv ((show Fr [28] [] [] σ122 (sS 28 ((σ122.1 28) - 1) σ122) from (Fr.rfl.S (by decide))).1 26 (by decide)) ((show Fr [28] [] [] σ122 (sS 28 ((σ122.1 28) - 1) σ122) from (Fr.rfl.S (by decide))).1 27 (by decide))), by show σ122.1 28 - 1 = σ.1 28; omega⟩)
            · have tr14 := tr13.sub yp3 (yp4 (by omega)) (yp5.1 (by omega))
              have gt := (yp4 (by omega)).2.2.1
              have gtz := gta
              unfold GTm at gtz
              have e28c : σ122.1 28 = σ.1 28 + 1 := by rw [(yp4 (by omega)).2.2.2.2]; exact e28b
              have m34b := yp3.2.2.2.2.2.1
              have rdj := tr14.2.2.1.2
              have tkj := tr14.2.2.1.1.1
              refine tm_aload_n dX12_expression_90 rfl 4 rfl ?_
              refine tm_iload_n dX12_expression_91 rfl 3 rfl ?_
              refine tm_iload_n dX12_expression_92 rfl 2 rfl ?_
              refine tm_iload dX12_expression_93 1 rfl ?_
              refine tm_aload_n dX12_expression_95 rfl 4 rfl ?_
              refine tm_getS (k := 39) (t := σ122.1 39) dX12_expression_96 (by decide) fl12_285 rfl (rfl) ?_
              have g133 := RG.s f126 39
              refine tm_aload_n dX12_expression_99 rfl 4 rfl ?_
              refine tm_getS (k := 40) (t := σ122.1 40) dX12_expression_100 (by decide) fl12_288 rfl (rfl) ?_
              have g134 := RG.s f126 40
              refine tm_callV (M := m_X12_expression) (pc := 103) (ix := 310) (M' := m_X12_joins) (As := [.int (iI 5), .int (iI (σ5.1 39)), .int (iI (σ5.1 40)), .int (iI (σ122.1 39)), .int (iI (σ122.1 40))]) (rest := []) dX12_expression_103 ok_X12_joins im_X12_joins se_X12_joins ml12_310 np_X12_joins rfl rfl (Nat.le_of_ble_eq_true rfl) (Nat.le_of_ble_eq_true rfl) rfl (c_X12_joins (d + 4 * lv + 8) (σ := σ122) (k := 5) (ak := σ5.1 39) (a := σ5.1 40) (bk := σ122.1 39) (c := σ122.1 40) f126 (by omega) (by decide) (by omega) (by have z := gt; unfold GTm at z; omega) (by omega) (by omega) (by omega)) (fun r135 σ136 hp => ?_)
              obtain ⟨rfl, f138, f139, f140, f141, f142⟩ := hp
              show Tm _ _ 106 b σ136 [(1, .int (iI v123)), (4, .int (iI (σ5.1 40))), (3, .int (iI (σ5.1 39))), (2, .int (iI 5)), (0, .ref b)] [] _
              have tr15 := tr14.join f138 ⟨f140.1, f140.2.1⟩ f141 f142 (by decide) hrd
              have gtf : GTm σ136 := by unfold GTm; rw [f140.2.2.1, f140.2.2.2, f140.1]; exact ⟨Or.inr rfl, fun _ => by omega⟩
              have e28f : σ136.1 28 = σ.1 28 + 1 := by rw [f138.1 28 (by decide)]; exact e28c
              refine tm_aload_n dX12_expression_106 rfl 4 rfl ?_
              refine tm_dup dX12_expression_107 rfl ?_
              refine tm_getS (k := 28) (t := σ122.1 28) dX12_expression_108 (by decide) fl12_304 rfl (rs_F f138 (by decide) (rfl)) ?_
              have g143 := RG.s f126 28
              refine tm_iconst dX12_expression_111 ?_
              refine tm_isub dX12_expression_112 ?_
              refine tm_putS (k := 28) (v := (σ122.1 28) - 1) lay_12 dX12_expression_113 (by decide) fl12_304 rfl (tyX12_ok 28 (by decide)) rfl rfl rfl ?_
              have tr16 := tr15.chg (show Fr [28] [] [] σ136 (sS 28 ((σ122.1 28) - 1) σ136) from (Fr.rfl.S (by decide))) (fun q => g7 ⟨rfl, by rw [show σ136.1 28 = σ122.1 28 from rs_F f138 (by decide) (rfl)]; rfl, rfl, rfl⟩)
              refine tm_iload_n dX12_expression_116 rfl 0 rfl ?_
              exact tm_zret (v := v123) rfl (by omega) dX12_expression_117 (⟨_, rfl, by omega, ((((((Fr.rfl.S (by decide)).trans (Fr.sub f8 (by decide) (by decide) (by decide))).trans (Fr.sub f117 (by decide) (by decide) (by decide))).trans (Fr.sub f125 (by decide) (by decide) (by decide))).trans (Fr.sub f138 (by decide) (by decide) (by decide))).S (by decide)), (f139.S (by omega)), tr16.1, fun _ => tr16.exs (by decide) (gtf.fr (show Fr [28] [] [] σ136 (sS 28 ((σ122.1 28) - 1) σ136) from (Fr.rfl.S (by decide))) (by decide)) (by show σ122.1 28 - 1 = σ.1 28; omega), by rw [show v123 = 1 by omega]; exact tr16.prs, by show σ122.1 28 - 1 = σ.1 28; omega⟩)
          · refine tm_iconst dX12_expression_60 ?_
            refine tm_goto (tgt := 65) dX12_expression_61 (by decide) ?_
            refine tm_istore_n (L' := [(2, .int (iI 4)), (1, .int (iI v6)), (0, .ref b)]) dX12_expression_65 rfl (by decide) rfl ?_
            refine tm_aload_n dX12_expression_66 rfl 2 rfl ?_
            refine tm_getS (k := 39) (t := σ5.1 39) dX12_expression_67 (by decide) fl12_285 rfl (rfl) ?_
            have g144 := RG.s f9 39
            refine tm_istore_n (L' := [(3, .int (iI (σ5.1 39))), (2, .int (iI 4)), (1, .int (iI v6)), (0, .ref b)]) dX12_expression_70 rfl (by decide) rfl ?_
            refine tm_aload_n dX12_expression_71 rfl 3 rfl ?_
            refine tm_getS (k := 40) (t := σ5.1 40) dX12_expression_72 (by decide) fl12_288 rfl (rfl) ?_
            have g145 := RG.s f9 40
            refine tm_istore (L' := [(4, .int (iI (σ5.1 40))), (3, .int (iI (σ5.1 39))), (2, .int (iI 4)), (1, .int (iI v6)), (0, .ref b)]) dX12_expression_75 (by decide) rfl ?_
            refine tm_aload_n dX12_expression_77 rfl 4 rfl ?_
            refine tm_callV (M := m_X12_expression) (pc := 78) (ix := 265) (M' := m_X12_advance) (As := []) (rest := []) dX12_expression_78 ok_X12_advance im_X12_advance se_X12_advance ml12_265 np_X12_advance rfl rfl (Nat.le_of_ble_eq_true rfl) (Nat.le_of_ble_eq_true rfl) rfl (c_X12_advance (d + 4 * lv + 6) (σ := σ5)  f9 (by have z := tr2.2.2.1.1.1; omega)) (fun r146 σ147 hp => ?_)
            obtain ⟨rfl, f149, f150, f151, f152, f153⟩ := hp
            show Tm _ _ 81 b σ147 [(4, .int (iI (σ5.1 40))), (3, .int (iI (σ5.1 39))), (2, .int (iI 4)), (1, .int (iI v6)), (0, .ref b)] [] _
            have tr17 := tr2.adv f150 f152 f153 (by first | (have z := (i61 (by omega)).1; omega) | (have z := (i60 (by omega)).1; omega)) (fun q => g6y (by first | exact Or.inl (i61 (by omega)) | exact Or.inr (i60 (by omega))) f149)
            have e28b : σ147.1 28 = σ.1 28 + 1 := by rw [f150.1 28 (by decide)]; exact e28a
            have m34a := f150.1 34 (by decide)
            refine tm_aload_n dX12_expression_81 rfl 4 rfl ?_
            refine tm_callV (M := m_X12_expression) (pc := 82) (ix := 307) (M' := m_X12_sum) (As := []) (rest := []) dX12_expression_82 ok_X12_sum im_X12_sum se_X12_sum ml12_307 np_X12_sum rfl rfl (Nat.le_of_ble_eq_true rfl) (Nat.le_of_ble_eq_true rfl) rfl (c_X12_sum (d) (σ := σ147)  hce f151 tr17.2.2.1 tr17.nn (by omega)) (fun r154 σ155 hp => ?_)
            obtain ⟨v156, rfl, f157, f158, f159, f160, f161, f162, f163⟩ := hp
            show Tm _ _ 85 b σ155 [(4, .int (iI (σ5.1 40))), (3, .int (iI (σ5.1 39))), (2, .int (iI 4)), (1, .int (iI v6)), (0, .ref b)] [.int (iI v156)] _
            have yp0 := f157
            have yp1 := f158
            have yp2 := f159
            have yp3 := f160
            have yp4 := f161
            have yp5 := f162
            have yp6 := f163
            have e28y : σ155.1 28 = σ.1 28 + 1 := yp6.trans e28b
            refine tm_istore_n (L' := [(1, .int (iI v156)), (4, .int (iI (σ5.1 40))), (3, .int (iI (σ5.1 39))), (2, .int (iI 4)), (0, .ref b)]) dX12_expression_85 rfl (by decide) rfl ?_
            refine tm_iload_n dX12_expression_86 rfl 0 rfl ?_
            refine tm_if_eq (tgt := 106) dX12_expression_87 (by decide) ⟨by omega, by omega⟩ (fun h164 => ?_) (fun h164 => ?_)
            · refine tm_aload_n dX12_expression_106 rfl 4 rfl ?_
              refine tm_dup dX12_expression_107 rfl ?_
              refine tm_getS (k := 28) (t := σ155.1 28) dX12_expression_108 (by decide) fl12_304 rfl (rfl) ?_
              have g165 := RG.s f159 28
              refine tm_iconst dX12_expression_111 ?_
              refine tm_isub dX12_expression_112 ?_
              refine tm_putS (k := 28) (v := (σ155.1 28) - 1) lay_12 dX12_expression_113 (by decide) fl12_304 rfl (tyX12_ok 28 (by decide)) rfl rfl rfl ?_
              refine tm_iload_n dX12_expression_116 rfl 0 rfl ?_
              exact tm_zret (v := v156) rfl (by omega) dX12_expression_117 (⟨_, rfl, by omega, (((((Fr.rfl.S (by decide)).trans (Fr.sub f8 (by decide) (by decide) (by decide))).trans (Fr.sub f150 (by decide) (by decide) (by decide))).trans (Fr.sub f158 (by decide) (by decide) (by decide))).S (by decide)), (f159.S (by omega)), (tr17.fail yp3 (yp5.2 (by omega))).1.trans (PBF.nop (tr17.fail yp3 (yp5.2 (by omega))).1.2.2.1 (show Fr [28] [] [] σ155 (sS 28 ((σ155.1 28) - 1) σ155) from (Fr.rfl.S (by decide))) (by decide) (by decide) (by decide)), fun q => absurd q (by omega), by rw [show v156 = 0 by omega]; exact PRS.no (fun q => ((tr17.fail yp3 (yp5.2 (by omega))).2 q).mv ((show Fr [28] [] [] σ155 (sS 28 ((σ155.1 28) - 1) σ155) from (Fr.rfl.S (by decide))).1 26 (by decide)) ((show Fr [28] [] [] σ155 (sS 28 ((σ155.1 28) - 1) σ155) from (Fr.rfl.S (by decide))).1 27 (by decide))), by show σ155.1 28 - 1 = σ.1 28; omega⟩)
            · have tr18 := tr17.sub yp3 (yp4 (by omega)) (yp5.1 (by omega))
              have gt := (yp4 (by omega)).2.2.1
              have gtz := gta
              unfold GTm at gtz
              have e28c : σ155.1 28 = σ.1 28 + 1 := by rw [(yp4 (by omega)).2.2.2.2]; exact e28b
              have m34b := yp3.2.2.2.2.2.1
              have rdj := tr18.2.2.1.2
              have tkj := tr18.2.2.1.1.1
              refine tm_aload_n dX12_expression_90 rfl 4 rfl ?_
              refine tm_iload_n dX12_expression_91 rfl 3 rfl ?_
              refine tm_iload_n dX12_expression_92 rfl 2 rfl ?_
              refine tm_iload dX12_expression_93 1 rfl ?_
              refine tm_aload_n dX12_expression_95 rfl 4 rfl ?_
              refine tm_getS (k := 39) (t := σ155.1 39) dX12_expression_96 (by decide) fl12_285 rfl (rfl) ?_
              have g166 := RG.s f159 39
              refine tm_aload_n dX12_expression_99 rfl 4 rfl ?_
              refine tm_getS (k := 40) (t := σ155.1 40) dX12_expression_100 (by decide) fl12_288 rfl (rfl) ?_
              have g167 := RG.s f159 40
              refine tm_callV (M := m_X12_expression) (pc := 103) (ix := 310) (M' := m_X12_joins) (As := [.int (iI 4), .int (iI (σ5.1 39)), .int (iI (σ5.1 40)), .int (iI (σ155.1 39)), .int (iI (σ155.1 40))]) (rest := []) dX12_expression_103 ok_X12_joins im_X12_joins se_X12_joins ml12_310 np_X12_joins rfl rfl (Nat.le_of_ble_eq_true rfl) (Nat.le_of_ble_eq_true rfl) rfl (c_X12_joins (d + 4 * lv + 8) (σ := σ155) (k := 4) (ak := σ5.1 39) (a := σ5.1 40) (bk := σ155.1 39) (c := σ155.1 40) f159 (by omega) (by decide) (by omega) (by have z := gt; unfold GTm at z; omega) (by omega) (by omega) (by omega)) (fun r168 σ169 hp => ?_)
              obtain ⟨rfl, f171, f172, f173, f174, f175⟩ := hp
              show Tm _ _ 106 b σ169 [(1, .int (iI v156)), (4, .int (iI (σ5.1 40))), (3, .int (iI (σ5.1 39))), (2, .int (iI 4)), (0, .ref b)] [] _
              have tr19 := tr18.join f171 ⟨f173.1, f173.2.1⟩ f174 f175 (by decide) hrd
              have gtf : GTm σ169 := by unfold GTm; rw [f173.2.2.1, f173.2.2.2, f173.1]; exact ⟨Or.inr rfl, fun _ => by omega⟩
              have e28f : σ169.1 28 = σ.1 28 + 1 := by rw [f171.1 28 (by decide)]; exact e28c
              refine tm_aload_n dX12_expression_106 rfl 4 rfl ?_
              refine tm_dup dX12_expression_107 rfl ?_
              refine tm_getS (k := 28) (t := σ155.1 28) dX12_expression_108 (by decide) fl12_304 rfl (rs_F f171 (by decide) (rfl)) ?_
              have g176 := RG.s f159 28
              refine tm_iconst dX12_expression_111 ?_
              refine tm_isub dX12_expression_112 ?_
              refine tm_putS (k := 28) (v := (σ155.1 28) - 1) lay_12 dX12_expression_113 (by decide) fl12_304 rfl (tyX12_ok 28 (by decide)) rfl rfl rfl ?_
              have tr20 := tr19.chg (show Fr [28] [] [] σ169 (sS 28 ((σ155.1 28) - 1) σ169) from (Fr.rfl.S (by decide))) (fun q => g7 ⟨rfl, by rw [show σ169.1 28 = σ155.1 28 from rs_F f171 (by decide) (rfl)]; rfl, rfl, rfl⟩)
              refine tm_iload_n dX12_expression_116 rfl 0 rfl ?_
              exact tm_zret (v := v156) rfl (by omega) dX12_expression_117 (⟨_, rfl, by omega, ((((((Fr.rfl.S (by decide)).trans (Fr.sub f8 (by decide) (by decide) (by decide))).trans (Fr.sub f150 (by decide) (by decide) (by decide))).trans (Fr.sub f158 (by decide) (by decide) (by decide))).trans (Fr.sub f171 (by decide) (by decide) (by decide))).S (by decide)), (f172.S (by omega)), tr20.1, fun _ => tr20.exs (by decide) (gtf.fr (show Fr [28] [] [] σ169 (sS 28 ((σ155.1 28) - 1) σ169) from (Fr.rfl.S (by decide))) (by decide)) (by show σ155.1 28 - 1 = σ.1 28; omega), by rw [show v156 = 1 by omega]; exact tr20.prs, by show σ155.1 28 - 1 = σ.1 28; omega⟩)
  · refine tm_aload_n dX12_expression_9 rfl 0 rfl ?_
    refine tm_callV (M := m_X12_expression) (pc := 10) (ix := 261) (M' := m_X12_wrong) (As := []) (rest := []) dX12_expression_10 ok_X12_wrong im_X12_wrong se_X12_wrong ml12_261 np_X12_wrong rfl rfl (Nat.le_of_ble_eq_true rfl) (Nat.le_of_ble_eq_true rfl) rfl (c_X12_wrong (d + 4 * lv + 10) (σ := σ)  hR) (fun r177 σ178 hp => ?_)
    obtain ⟨v179, rfl, f180, f181, f182, f183, f184, f185⟩ := hp
    show Tm _ _ 13 b σ178 [(0, .ref b)] [.int (iI v179)] _
    exact tm_zret (v := v179) rfl (by omega) dX12_expression_13 (⟨_, rfl, by omega, (Fr.rfl.trans (Fr.sub f181 (by decide) (by decide) (by decide))), f182, (tr0.fail (PBF.of tr0.nn f181 (by decide) (by decide) (by decide) (FLT.wr f184 f185)) (fun q => g2f (by omega) (WRG.of f185))).1, fun q => absurd q (by omega), by rw [show v179 = 0 from f180]; exact PRS.no (tr0.fail (PBF.of tr0.nn f181 (by decide) (by decide) (by decide) (FLT.wr f184 f185)) (fun q => g2f (by omega) (WRG.of f185))).2, rs_F f181 (by decide) (rfl)⟩)
set_option maxHeartbeats 4000000 in
set_option maxRecDepth 20000 in
theorem c0_X12_expression (d : Nat) {b : Nat} {σ : MS} (hR : RG σ) (hrd : RDY σ) (hnn : NN σ) (h28 : σ.1 28 = 8) : Tm (d + 8) m_X12_expression 0 b σ [(0, .ref b)] [] (fun ro σ2 => ∃ v : Int, ro = some (.int (iI v)) ∧ ((v = 0 ∨ v = 1)) ∧ (Fr [19, 20, 22, 23, 26, 27, 28, 32, 34, 39, 40] [3, 4, 5, 6, 7, 8, 35] [24, 38] σ σ2) ∧ (RG σ2) ∧ (PBF σ σ2) ∧ (Im v 1 (EXS σ σ2)) ∧ (PRS 2 v σ σ2) ∧ (σ2.1 28 = σ.1 28)) := by
  have tr0 : TRm 2 0 σ [2] σ := TRm.start hrd hnn
  refine tm_aload_n dX12_expression_0 rfl 0 rfl ?_
  refine tm_getS (k := 28) (t := σ.1 28) dX12_expression_1 (by decide) fl12_304 rfl (rfl) ?_
  have g1 := RG.s hR 28
  refine tm_bipush dX12_expression_4 (by decide) ?_
  refine tm_icmp_ne (tgt := 14) dX12_expression_6 (by decide) ⟨by omega, by omega⟩ ⟨by decide, by decide⟩ (fun h2 => ?_) (fun h2 => ?_)
  · exfalso; omega
  · refine tm_aload_n dX12_expression_9 rfl 0 rfl ?_
    refine tm_callV (M := m_X12_expression) (pc := 10) (ix := 261) (M' := m_X12_wrong) (As := []) (rest := []) dX12_expression_10 ok_X12_wrong im_X12_wrong se_X12_wrong ml12_261 np_X12_wrong rfl rfl (Nat.le_of_ble_eq_true rfl) (Nat.le_of_ble_eq_true rfl) rfl (c_X12_wrong (d + 6) (σ := σ)  hR) (fun r3 σ4 hp => ?_)
    obtain ⟨v5, rfl, f6, f7, f8, f9, f10, f11⟩ := hp
    show Tm _ _ 13 b σ4 [(0, .ref b)] [.int (iI v5)] _
    exact tm_zret (v := v5) rfl (by omega) dX12_expression_13 (⟨_, rfl, by omega, (Fr.rfl.trans (Fr.sub f7 (by decide) (by decide) (by decide))), f8, (tr0.fail (PBF.of tr0.nn f7 (by decide) (by decide) (by decide) (FLT.wr f10 f11)) (fun q => g2f (by omega) (WRG.of f11))).1, fun q => absurd q (by omega), by rw [show v5 = 0 from f6]; exact PRS.no (tr0.fail (PBF.of tr0.nn f7 (by decide) (by decide) (by decide) (FLT.wr f10 f11)) (fun q => g2f (by omega) (WRG.of f11))).2, rs_F f7 (by decide) (rfl)⟩)
theorem c_exp : ∀ (lv : Nat), ∀ (d : Nat) {b : Nat} {σ : MS} (hR : RG σ) (hrd : RDY σ) (hnn : NN σ) (h28 : σ.1 28 = 8 - (lv : Int)), Tm (d + 4 * lv + 8) m_X12_expression 0 b σ [(0, .ref b)] [] (fun ro σ2 => ∃ v : Int, ro = some (.int (iI v)) ∧ ((v = 0 ∨ v = 1)) ∧ (Fr [19, 20, 22, 23, 26, 27, 28, 32, 34, 39, 40] [3, 4, 5, 6, 7, 8, 35] [24, 38] σ σ2) ∧ (RG σ2) ∧ (PBF σ σ2) ∧ (Im v 1 (EXS σ σ2)) ∧ (PRS 2 v σ σ2) ∧ (σ2.1 28 = σ.1 28)) := by
  intro lv
  induction lv with
  | zero =>
    intro d b σ hR hrd hnn h28
    exact c0_X12_expression d hR hrd hnn (by omega)
  | succ lv ih =>
    intro d b σ hR hrd hnn h28
    rw [show d + 4 * (lv + 1) + 8 = d + 4 * lv + 12 by omega]
    exact cs_X12_expression d (lv := lv) ih hR hrd hnn (by omega)
theorem c_exp8 (d : Nat) {b : Nat} {σ : MS} (hR : RG σ) (hrd : RDY σ) (hnn : NN σ) (h28 : σ.1 28 = 0) : Tm (d + 40) m_X12_expression 0 b σ [(0, .ref b)] [] (fun ro σ2 => ∃ v : Int, ro = some (.int (iI v)) ∧ ((v = 0 ∨ v = 1)) ∧ (Fr [19, 20, 22, 23, 26, 27, 28, 32, 34, 39, 40] [3, 4, 5, 6, 7, 8, 35] [24, 38] σ σ2) ∧ (RG σ2) ∧ (PBF σ σ2) ∧ (Im v 1 (EXS σ σ2)) ∧ (PRS 2 v σ σ2) ∧ (σ2.1 28 = σ.1 28)) := c_exp 8 d hR hrd hnn (by omega)
end
section
/-! pieces of a plain code: labels l0 to l1, calls to fewer than R routines -/
def WS (K D O : Int → Int) (R a b l0 l1 : Int) : Prop := (l0 ≤ l1 ∧ a ≤ b) ∧
  (∀ k, a ≤ k → k < b → K k ≠ 14 ∧ K k ≠ 15 ∧ ((K k = 8 ∨ K k = 9 ∨ K k = 13) → l0 ≤ D k ∧ D k < l1)) ∧
  (∀ k, a ≤ k → k < b → (K k = 8 ∨ K k = 9) → ∃ j, a ≤ j ∧ j < b ∧ K j = 13 ∧ D j = D k) ∧
  (∀ p j, a ≤ p → p < b → a ≤ j → j < b → (K p = 8 ∨ K p = 9) → K j = 13 → D j = D p → p < j ∨ (K (j + 1) = 11 ∧ j + 1 < b)) ∧
  (∀ k, a ≤ k → k < b → K k = 10 → (0 ≤ O k ∧ O k < R) ∧ ∃ j, a ≤ j ∧ j < k ∧ K j = 11 ∧ O j = 0 ∧ ∀ i, j < i → i < k → 0 ≤ K i ∧ K i ≤ 5)
section WSS
variable {K D O : Int → Int} {R a b c l0 l1 l2 : Int}
theorem WS.nil (h : l0 ≤ l1) : WS K D O R a a l0 l1 := ⟨⟨h, Int.le_refl _⟩, fun k x y => by omega, fun k x y => by omega, fun p j x y => by omega, fun k x y => by omega⟩
theorem WS.cat (h : WS K D O R a b l0 l1) (g : WS K D O R b c l1 l2) : WS K D O R a c l0 l2 := by
  obtain ⟨h0, h1, h2, h3, h4⟩ := h
  obtain ⟨g0, g1, g2, g3, g4⟩ := g
  refine ⟨⟨by omega, by omega⟩, fun k x y => ?_, fun k x y z => ?_, fun p j x y u w e f i => ?_, fun k x y z => ?_⟩
  · by_cases q : k < b
    · have := h1 k x q
      exact ⟨this.1, this.2.1, fun z => by have := this.2.2 z; omega⟩
    · have := g1 k (by omega) y
      exact ⟨this.1, this.2.1, fun z => by have := this.2.2 z; omega⟩
  · by_cases q : k < b
    · obtain ⟨j, j1, j2, j3⟩ := h2 k x q z
      exact ⟨j, j1, by omega, j3⟩
    · obtain ⟨j, j1, j2, j3⟩ := g2 k (by omega) y z
      exact ⟨j, by omega, j2, j3⟩
  · by_cases q : p < b
    · by_cases q2 : j < b
      · rcases h3 p j x q u q2 e f i with r | r
        · exact Or.inl r
        · exact Or.inr ⟨r.1, by omega⟩
      · exact Or.inl (by omega)
    · by_cases q2 : j < b
      · exfalso
        have r := (h1 j u q2).2.2 (Or.inr (Or.inr f))
        have t := (g1 p (by omega) y).2.2 (by omega)
        omega
      · exact g3 p j (by omega) y (by omega) w e f i
  · by_cases q : k < b
    · exact h4 k x q z
    · obtain ⟨r, j, j1, j2, j3⟩ := g4 k (by omega) y z
      exact ⟨r, j, by omega, j2, j3⟩
theorem WS.wide (h : WS K D O R a b l0 l1) (e0 : l2 ≤ l0) {l3 : Int} (e1 : l1 ≤ l3) : WS K D O R a b l2 l3 := by
  obtain ⟨h0, h1, h2, h3, h4⟩ := h
  exact ⟨⟨by omega, h0.2⟩, fun k x y => ⟨(h1 k x y).1, (h1 k x y).2.1, fun z => by have := (h1 k x y).2.2 z; omega⟩, h2, h3, h4⟩
/-- items without labels and calls -/
theorem WS.plain (hl : l0 ≤ l1) (hab : a ≤ b) (h : ∀ k, a ≤ k → k < b → K k ≠ 8 ∧ K k ≠ 9 ∧ K k ≠ 10 ∧ K k ≠ 13 ∧ K k ≠ 14 ∧ K k ≠ 15) : WS K D O R a b l0 l1 := by
  refine ⟨⟨hl, hab⟩, fun k x y => ⟨(h k x y).2.2.2.2.1, (h k x y).2.2.2.2.2, fun z => ?_⟩, fun k x y z => ?_, fun p j x y u w e f i => ?_, fun k x y z => absurd z (h k x y).2.2.1⟩
  · have := h k x y; omega
  · have := h k x y; omega
  · have := h p x y; omega
/-- a line, numbers, a call -/
theorem WS.call (hl : l0 ≤ l1) (hab : a + 1 < b) (h1 : K a = 11 ∧ O a = 0) (h2 : ∀ k, a < k → k < b - 1 → 0 ≤ K k ∧ K k ≤ 5) (h3 : K (b - 1) = 10 ∧ 0 ≤ O (b - 1) ∧ O (b - 1) < R) : WS K D O R a b l0 l1 := by
  have key : ∀ k, a ≤ k → k < b → k = a ∨ k = b - 1 ∨ (0 ≤ K k ∧ K k ≤ 5) := fun k x y => by
    by_cases e : k = a
    · exact Or.inl e
    · by_cases e2 : k = b - 1
      · exact Or.inr (Or.inl e2)
      · exact Or.inr (Or.inr (h2 k (by omega) (by omega)))
  have nk : ∀ k, a ≤ k → k < b → K k ≠ 8 ∧ K k ≠ 9 ∧ K k ≠ 13 ∧ K k ≠ 14 ∧ K k ≠ 15 := fun k x y => by
    rcases key k x y with e | e | e
    · rw [e]; omega
    · rw [e]; omega
    · omega
  refine ⟨⟨hl, by omega⟩, fun k x y => ⟨(nk k x y).2.2.2.1, (nk k x y).2.2.2.2, fun z => ?_⟩, fun k x y z => ?_, fun p j x y u w e f i => ?_, fun k x y z => ?_⟩
  · have := nk k x y; omega
  · have := nk k x y; omega
  · have := nk p x y; omega
  · have ek : k = b - 1 := by
      rcases key k x y with e | e | e
      · rw [e] at z; omega
      · exact e
      · omega
    rw [ek]
    exact ⟨h3.2, a, by omega, by omega, h1.1, h1.2, fun i x2 y2 => h2 i x2 y2⟩
/-- ZERO f, a piece, LABEL f -/
theorem WS.ifs (g : WS K D O R (a + 1) b (l0 + 1) l1) (h1 : K a = 9 ∧ D a = l0) (h2 : K b = 13 ∧ D b = l0) : WS K D O R a (b + 1) l0 l1 := by
  obtain ⟨g0, g1, g2, g3, g4⟩ := g
  refine ⟨⟨by omega, by omega⟩, fun k x y => ?_, fun k x y z => ?_, fun p j x y u w e f i => ?_, fun k x y z => ?_⟩
  · by_cases e : k = a
    · rw [e]; exact ⟨by omega, by omega, fun _ => by omega⟩
    · by_cases e2 : k = b
      · rw [e2]; exact ⟨by omega, by omega, fun _ => by omega⟩
      · have := g1 k (by omega) (by omega)
        exact ⟨this.1, this.2.1, fun z => by have := this.2.2 z; omega⟩
  · by_cases e : k = a
    · exact ⟨b, by omega, by omega, h2.1, by rw [e, h1.2, h2.2]⟩
    · by_cases e2 : k = b
      · rw [e2] at z; omega
      · obtain ⟨j, j1, j2, j3⟩ := g2 k (by omega) (by omega) z
        exact ⟨j, by omega, by omega, j3⟩
  · by_cases e2 : j = b
    · by_cases e3 : p = b
      · rw [e3] at e; omega
      · exact Or.inl (by omega)
    · by_cases e3 : j = a
      · rw [e3] at f; omega
      · have dj := (g1 j (by omega) (by omega)).2.2 (Or.inr (Or.inr f))
        by_cases e4 : p = a
        · rw [e4, h1.2] at i; omega
        · by_cases e5 : p = b
          · rw [e5] at e; omega
          · rcases g3 p j (by omega) (by omega) (by omega) (by omega) e f i with r | r
            · exact Or.inl r
            · exact Or.inr ⟨r.1, by omega⟩
  · by_cases e : k = a
    · rw [e] at z; omega
    · by_cases e2 : k = b
      · rw [e2] at z; omega
      · obtain ⟨r, j, j1, j2, j3⟩ := g4 k (by omega) (by omega) z
        exact ⟨r, j, by omega, j2, j3⟩
/-- ZERO f, a piece, JUMP s, LABEL f, a piece, LABEL s -/
theorem WS.ife (g : WS K D O R (a + 1) b (l0 + 1) l1) (u : WS K D O R (b + 2) c (l1 + 1) l2) (h1 : K a = 9 ∧ D a = l0) (h2 : K b = 8 ∧ D b = l1) (h3 : K (b + 1) = 13 ∧ D (b + 1) = l0) (h4 : K c = 13 ∧ D c = l1) : WS K D O R a (c + 1) l0 l2 := by
  obtain ⟨g0, g1, g2, g3, g4⟩ := g
  obtain ⟨u0, u1, u2, u3, u4⟩ := u
  have cs : ∀ k, a ≤ k → k < c + 1 → k = a ∨ (a + 1 ≤ k ∧ k < b) ∨ k = b ∨ k = b + 1 ∨ (b + 2 ≤ k ∧ k < c) ∨ k = c := fun k x y => by omega
  refine ⟨⟨by omega, by omega⟩, fun k x y => ?_, fun k x y z => ?_, fun p j x y x2 y2 e f i => ?_, fun k x y z => ?_⟩
  · rcases cs k x y with e | e | e | e | e | e
    · rw [e]; exact ⟨by omega, by omega, fun _ => by omega⟩
    · have := g1 k e.1 e.2
      exact ⟨this.1, this.2.1, fun z => by have := this.2.2 z; omega⟩
    · rw [e]; exact ⟨by omega, by omega, fun _ => by omega⟩
    · rw [e]; exact ⟨by omega, by omega, fun _ => by omega⟩
    · have := u1 k e.1 e.2
      exact ⟨this.1, this.2.1, fun z => by have := this.2.2 z; omega⟩
    · rw [e]; exact ⟨by omega, by omega, fun _ => by omega⟩
  · rcases cs k x y with e | e | e | e | e | e
    · exact ⟨b + 1, by omega, by omega, h3.1, by rw [e, h1.2, h3.2]⟩
    · obtain ⟨j, j1, j2, j3⟩ := g2 k e.1 e.2 z
      exact ⟨j, by omega, by omega, j3⟩
    · exact ⟨c, by omega, by omega, h4.1, by rw [e, h2.2, h4.2]⟩
    · rw [e] at z; omega
    · obtain ⟨j, j1, j2, j3⟩ := u2 k e.1 e.2 z
      exact ⟨j, by omega, by omega, j3⟩
    · rw [e] at z; omega
  · have pl : ∀ z, a ≤ z → z < c + 1 → (K z = 8 ∨ K z = 9) → z = a ∨ (a + 1 ≤ z ∧ z < b) ∨ z = b ∨ (b + 2 ≤ z ∧ z < c) := fun z z1 z2 z3 => by
      rcases cs z z1 z2 with q | q | q | q | q | q
      · exact Or.inl q
      · exact Or.inr (Or.inl q)
      · exact Or.inr (Or.inr (Or.inl q))
      · rw [q] at z3; omega
      · exact Or.inr (Or.inr (Or.inr q))
      · rw [q] at z3; omega
    rcases cs j x2 y2 with r | r | r | r | r | r
    · rw [r] at f; omega
    · have dj := (g1 j r.1 r.2).2.2 (Or.inr (Or.inr f))
      rcases pl p x y e with q | q | q | q
      · rw [q] at i; omega
      · rcases g3 p j q.1 q.2 r.1 r.2 e f i with t | t
        · exact Or.inl t
        · exact Or.inr ⟨t.1, by omega⟩
      · rw [q] at i; omega
      · have dp := (u1 p q.1 q.2).2.2 (by omega)
        omega
    · rw [r] at f; omega
    · rcases pl p x y e with q | q | q | q
      · exact Or.inl (by omega)
      · exact Or.inl (by omega)
      · exact Or.inl (by omega)
      · have dp := (u1 p q.1 q.2).2.2 (by omega)
        rw [r, h3.2] at i; omega
    · have dj := (u1 j r.1 r.2).2.2 (Or.inr (Or.inr f))
      rcases pl p x y e with q | q | q | q
      · rw [q] at i; omega
      · have dp := (g1 p q.1 q.2).2.2 (by omega)
        omega
      · rw [q] at i; omega
      · rcases u3 p j q.1 q.2 r.1 r.2 e f i with t | t
        · exact Or.inl t
        · exact Or.inr ⟨t.1, by omega⟩
    · rcases pl p x y e with q | q | q | q <;> exact Or.inl (by omega)
  · rcases cs k x y with e | e | e | e | e | e
    · rw [e] at z; omega
    · obtain ⟨r, j, j1, j2, j3⟩ := g4 k e.1 e.2 z
      exact ⟨r, j, by omega, j2, j3⟩
    · rw [e] at z; omega
    · rw [e] at z; omega
    · obtain ⟨r, j, j1, j2, j3⟩ := u4 k e.1 e.2 z
      exact ⟨r, j, by omega, j2, j3⟩
    · rw [e] at z; omega
/-- LABEL f, LINE, numbers, ZERO s, a piece, JUMP f, LABEL s -/
theorem WS.whl {m : Int} (g : WS K D O R (m + 1) b (l0 + 2) l1) (hm : a + 2 ≤ m) (h1 : K a = 13 ∧ D a = l0) (h2 : K (a + 1) = 11) (h3 : ∀ k, a + 2 ≤ k → k < m → 0 ≤ K k ∧ K k ≤ 5) (h4 : K m = 9 ∧ D m = l0 + 1) (h5 : K b = 8 ∧ D b = l0) (h6 : K (b + 1) = 13 ∧ D (b + 1) = l0 + 1) : WS K D O R a (b + 2) l0 l1 := by
  obtain ⟨g0, g1, g2, g3, g4⟩ := g
  have cs : ∀ k, a ≤ k → k < b + 2 → k = a ∨ k = a + 1 ∨ (a + 2 ≤ k ∧ k < m) ∨ k = m ∨ (m + 1 ≤ k ∧ k < b) ∨ k = b ∨ k = b + 1 := fun k x y => by omega
  refine ⟨⟨by omega, by omega⟩, fun k x y => ?_, fun k x y z => ?_, fun p j x y x2 y2 e f i => ?_, fun k x y z => ?_⟩
  · rcases cs k x y with e | e | e | e | e | e | e
    · rw [e]; exact ⟨by omega, by omega, fun _ => by omega⟩
    · rw [e]; exact ⟨by omega, by omega, fun _ => by omega⟩
    · have := h3 k e.1 e.2
      exact ⟨by omega, by omega, fun _ => by omega⟩
    · rw [e]; exact ⟨by omega, by omega, fun _ => by omega⟩
    · have := g1 k e.1 e.2
      exact ⟨this.1, this.2.1, fun z => by have := this.2.2 z; omega⟩
    · rw [e]; exact ⟨by omega, by omega, fun _ => by omega⟩
    · rw [e]; exact ⟨by omega, by omega, fun _ => by omega⟩
  · rcases cs k x y with e | e | e | e | e | e | e
    · rw [e] at z; omega
    · rw [e] at z; omega
    · have := h3 k e.1 e.2; omega
    · exact ⟨b + 1, by omega, by omega, h6.1, by rw [e, h4.2, h6.2]⟩
    · obtain ⟨j, j1, j2, j3⟩ := g2 k e.1 e.2 z
      exact ⟨j, by omega, by omega, j3⟩
    · exact ⟨a, by omega, by omega, h1.1, by rw [e, h5.2, h1.2]⟩
    · rw [e] at z; omega
  · have pl : ∀ z, a ≤ z → z < b + 2 → (K z = 8 ∨ K z = 9) → z = m ∨ (m + 1 ≤ z ∧ z < b) ∨ z = b := fun z z1 z2 z3 => by
      rcases cs z z1 z2 with q | q | q | q | q | q | q
      · rw [q] at z3; omega
      · rw [q] at z3; omega
      · have := h3 z q.1 q.2; omega
      · exact Or.inl q
      · exact Or.inr (Or.inl q)
      · exact Or.inr (Or.inr q)
      · rw [q] at z3; omega
    rcases cs j x2 y2 with r | r | r | r | r | r | r
    · exact Or.inr ⟨by rw [r]; exact h2, by omega⟩
    · rw [r] at f; omega
    · have := h3 j r.1 r.2; omega
    · rw [r] at f; omega
    · have dj := (g1 j r.1 r.2).2.2 (Or.inr (Or.inr f))
      rcases pl p x y e with q | q | q
      · rw [q] at i; omega
      · rcases g3 p j q.1 q.2 r.1 r.2 e f i with t | t
        · exact Or.inl t
        · exact Or.inr ⟨t.1, by omega⟩
      · rw [q] at i; omega
    · rw [r] at f; omega
    · rcases pl p x y e with q | q | q <;> exact Or.inl (by omega)
  · rcases cs k x y with e | e | e | e | e | e | e
    · rw [e] at z; omega
    · rw [e] at z; omega
    · have := h3 k e.1 e.2; omega
    · rw [e] at z; omega
    · obtain ⟨r, j, j1, j2, j3⟩ := g4 k e.1 e.2 z
      exact ⟨r, j, by omega, j2, j3⟩
    · rw [e] at z; omega
    · rw [e] at z; omega
theorem WS.ext {K' D' O' : Int → Int} (h : WS K D O R a b l0 l1) (e : ∀ k, a ≤ k → k < b → K' k = K k ∧ D' k = D k ∧ O' k = O k) : WS K' D' O' R a b l0 l1 := by
  obtain ⟨h0, h1, h2, h3, h4⟩ := h
  refine ⟨h0, fun k x y => ?_, fun k x y z => ?_, fun p j x y x2 y2 u f i => ?_, fun k x y z => ?_⟩
  · rw [(e k x y).1, (e k x y).2.1]; exact h1 k x y
  · rw [(e k x y).1] at z
    obtain ⟨j, j1, j2, j3, j4⟩ := h2 k x y z
    exact ⟨j, j1, j2, by rw [(e j j1 j2).1]; exact j3, by rw [(e j j1 j2).2.1, (e k x y).2.1]; exact j4⟩
  · rw [(e p x y).1] at u
    rw [(e j x2 y2).1] at f
    rw [(e j x2 y2).2.1, (e p x y).2.1] at i
    rcases h3 p j x y x2 y2 u f i with r | r
    · exact Or.inl r
    · exact Or.inr ⟨by rw [(e (j + 1) (by omega) r.2).1]; exact r.1, r.2⟩
  · rw [(e k x y).1] at z
    obtain ⟨r, j, j1, j2, j3, j4, j5⟩ := h4 k x y z
    refine ⟨by rw [(e k x y).2.2]; exact r, j, j1, j2, by rw [(e j j1 (by omega)).1]; exact j3, by rw [(e j j1 (by omega)).2.2]; exact j4, fun i x2 y2 => ?_⟩
    rw [(e i (by omega) (by omega)).1]; exact j5 i x2 y2
end WSS
end
section
theorem oki_bind {σ : MS} {x k : Int} (h : ITz σ x 12 k 0) (hk : 0 ≤ k ∧ k < 12) : OKI (fArg x 0 2 k (sA 6 x 2 σ)) 1 x := by
  have e3 : (fArg x 0 2 k (sA 6 x 2 σ)).2.1 3 x = 12 := h.1
  have e4 : (fArg x 0 2 k (sA 6 x 2 σ)).2.1 4 x = k := h.2.1
  have e5 : (fArg x 0 2 k (sA 6 x 2 σ)).2.1 5 x = 0 := h.2.2.1
  have e6 : (fArg x 0 2 k (sA 6 x 2 σ)).2.1 6 x = 2 := ra_o (by decide) (ra_o (by decide) ra_eq)
  have en : nArgs (fArg x 0 2 k (sA 6 x 2 σ)) x = 1 := by
    unfold nArgs
    rw [e3, e6]
    simp
  refine ⟨by omega, by omega, by omega, by omega, by omega, by omega, by omega, fun i i0 i4 => ?_, fun _ _ => fArg_at.1⟩
  by_cases z : i = 0
  · rw [z, fArg_at.1, fArg_at.2, en]
    exact ⟨by omega, fun _ => ⟨by omega, by omega⟩⟩
  · rw [(fArg_ne z).1, (fArg_ne z).2, en]
    have q : (sA 6 x 2 σ).2.1 7 (4 * x + i) = 0 := h.2.2.2.2 i i0 i4
    rw [q]
    exact ⟨by omega, fun w => by omega⟩

theorem dX12_bind_0 : decode cX12_bind 0 = .ok (.aload_n 0, 1) := by decide +kernel
theorem dX12_bind_1 : decode cX12_bind 1 = .ok (.bipush 12, 2) := by decide +kernel
theorem dX12_bind_3 : decode cX12_bind 3 = .ok (.iload_n 1, 1) := by decide +kernel
theorem dX12_bind_4 : decode cX12_bind 4 = .ok (.iconst 0, 1) := by decide +kernel
theorem dX12_bind_5 : decode cX12_bind 5 = .ok (.invokevirtual 294, 3) := by decide +kernel
theorem dX12_bind_8 : decode cX12_bind 8 = .ok (.istore_n 2, 1) := by decide +kernel
theorem dX12_bind_9 : decode cX12_bind 9 = .ok (.aload_n 0, 1) := by decide +kernel
theorem dX12_bind_10 : decode cX12_bind 10 = .ok (.getfield 23, 3) := by decide +kernel
theorem dX12_bind_13 : decode cX12_bind 13 = .ok (.iload_n 2, 1) := by decide +kernel
theorem dX12_bind_14 : decode cX12_bind 14 = .ok (.iconst 2, 1) := by decide +kernel
theorem dX12_bind_15 : decode cX12_bind 15 = .ok (.iastore, 1) := by decide +kernel
theorem dX12_bind_16 : decode cX12_bind 16 = .ok (.aload_n 0, 1) := by decide +kernel
theorem dX12_bind_17 : decode cX12_bind 17 = .ok (.iload_n 2, 1) := by decide +kernel
theorem dX12_bind_18 : decode cX12_bind 18 = .ok (.iconst 0, 1) := by decide +kernel
theorem dX12_bind_19 : decode cX12_bind 19 = .ok (.iconst 2, 1) := by decide +kernel
theorem dX12_bind_20 : decode cX12_bind 20 = .ok (.iload_n 1, 1) := by decide +kernel
theorem dX12_bind_21 : decode cX12_bind 21 = .ok (.invokevirtual 298, 3) := by decide +kernel
theorem dX12_bind_24 : decode cX12_bind 24 = .ok (.return_, 1) := by decide +kernel
set_option maxHeartbeats 4000000 in
set_option maxRecDepth 20000 in
theorem c_X12_bind (d : Nat) {b : Nat} {σ : MS} {k : Int} (hR : RG σ) (hph : (0 ≤ σ.1 30 ∧ σ.1 30 ≤ 2000) ∧ (0 ≤ σ.1 34 ∧ σ.1 34 ≤ 10000)) (hk12 : 0 ≤ k ∧ k < 12) : Tm (d + 3) m_X12_bind 0 b σ [(0, .ref b), (1, .int (iI k))] [] (fun ro σ2 => ro = none ∧ (Fr [34] [3, 4, 5, 6, 7, 8] [] σ σ2) ∧ (RG σ2) ∧ (σ2.1 34 = σ.1 34 + 1) ∧ (OFF (PXx σ) σ σ2) ∧ (OKI σ2 1 (PXx σ)) ∧ (σ2.2.1 3 (PXx σ) = 12)) := by
  refine tm_aload_n dX12_bind_0 rfl 0 rfl ?_
  refine tm_bipush dX12_bind_1 (by decide) ?_
  refine tm_iload_n dX12_bind_3 rfl 1 rfl ?_
  refine tm_iconst dX12_bind_4 ?_
  refine tm_callV (M := m_X12_bind) (pc := 5) (ix := 294) (M' := m_X12_put) (As := [.int (iI 12), .int (iI k), .int (iI 0)]) (rest := []) dX12_bind_5 ok_X12_put im_X12_put se_X12_put ml12_294 np_X12_put rfl rfl (Nat.le_of_ble_eq_true rfl) (Nat.le_of_ble_eq_true rfl) rfl (c_X12_put (d) (σ := σ) (k := 12) (e := k) (o := 0) hR hph (by omega) (by omega) (by omega)) (fun r1 σ2 hp => ?_)
  obtain ⟨v3, rfl, f4, f5, f6, f7, f8, f9, f10⟩ := hp
  show Tm _ _ 8 b σ2 [(0, .ref b), (1, .int (iI k))] [.int (iI v3)] _
  have jv := f6
  have jn := f7
  have ji := f8
  have jo := f9
  have jr := f10
  refine tm_istore_n (L' := [(2, .int (iI v3)), (0, .ref b), (1, .int (iI k))]) dX12_bind_8 rfl (by decide) rfl ?_
  refine tm_aload_n dX12_bind_9 rfl 1 rfl ?_
  refine tm_get (k := 6) (v := .ref (b + 1 + 4)) lay_12 dX12_bind_10 (by decide) fl12_23 rfl ?_
  refine tm_iload_n dX12_bind_13 rfl 0 rfl ?_
  refine tm_iconst dX12_bind_14 ?_
  refine tm_iast (z := v3) (v := 2) dX12_bind_15 (show mT[4]? = some (6, 0, 2860) from rfl) (by omega) (by omega) (by decide) ?_
  refine tm_aload_n dX12_bind_16 rfl 1 rfl ?_
  refine tm_iload_n dX12_bind_17 rfl 0 rfl ?_
  refine tm_iconst dX12_bind_18 ?_
  refine tm_iconst dX12_bind_19 ?_
  refine tm_iload_n dX12_bind_20 rfl 2 rfl ?_
  refine tm_callV (M := m_X12_bind) (pc := 21) (ix := 298) (M' := m_X12_setArg) (As := [.int (iI v3), .int (iI 0), .int (iI 2), .int (iI k)]) (rest := []) dX12_bind_21 ok_X12_setArg im_X12_setArg se_X12_setArg ml12_298 np_X12_setArg rfl rfl (Nat.le_of_ble_eq_true rfl) (Nat.le_of_ble_eq_true rfl) rfl (c_X12_setArg (d + 1) (σ := (sA 6 (v3) (2) σ2)) (x := v3) (i := 0) (k := 2) (w := k) (by omega)) (fun r11 σ12 hp => ?_)
  obtain ⟨rfl, f14⟩ := hp
  subst f14
  show Tm _ _ 24 b (fArg (v3) (0) (2) (k) (sA 6 (v3) (2) σ2)) [(2, .int (iI v3)), (0, .ref b), (1, .int (iI k))] [] _
  exact tm_vret rfl dX12_bind_24 (⟨rfl, (((Fr.rfl.trans (Fr.sub f4 (by decide) (by decide) (by decide))).A (by decide)).trans (Fr.sub fArg_fr (by decide) (by decide) (by decide))), (((f5.A (by omega))).arg (by omega) (by omega)), jn, by rw [← jv]; exact (jo.trans (OFF.A (by decide))).trans (OFF.arg (by decide) (by decide)), by rw [← jv]; exact oki_bind ji hk12, by rw [← jv]; exact ji.1⟩)
end
section
/-- the first routine told by that name, or none -/
def RBY (σ : MS) (w : Int64) (v : Int) : Prop := (0 ≤ v → σ.2.2 44 v = w ∧ ∀ j, 0 ≤ j → j < v → σ.2.2 44 j ≠ w) ∧ (v = -1 → ∀ j, 0 ≤ j → j < σ.1 43 → σ.2.2 44 j ≠ w)
theorem RBY.one {σ : MS} {w : Int64} {u v : Int} (h : RBY σ w u) (g : RBY σ w v) (hu : 0 ≤ u) (hv : 0 ≤ v) : u = v := by
  by_cases a : u < v
  · exact absurd (h.1 hu).1 ((g.1 hv).2 u hu a)
  · by_cases b : v < u
    · exact absurd (g.1 hv).1 ((h.1 hu).2 v hv b)
    · omega

set_option maxHeartbeats 4000000 in
set_option maxRecDepth 20000 in
theorem l_routineB2 (d : Nat) {b : Nat} {σ : MS} {w : Int64} {post : Option Value → MS → Prop} (hR : RG σ) (ht : 0 ≤ σ.1 43 ∧ σ.1 43 ≤ 260) (hx_29 : ∀ (q : Int) , (∀ j, 0 ≤ j → j < σ.1 43 → σ.2.2 44 j ≠ w) → Tm (d + 1) m_X12_routineBy 29 b σ [(3, .int (iI q)), (0, .ref b), (1, .long (w))] [] post) (hr1 : ∀ q, 0 ≤ q → q < σ.1 43 → σ.2.2 44 q = w → (∀ j, 0 ≤ j → j < q → σ.2.2 44 j ≠ w) → post (some (.int (iI q))) σ) : ∀ (n : Nat) (q : Int) , (0 ≤ q ∧ q ≤ 260) → (∀ j, 0 ≤ j → j < q → σ.2.2 44 j ≠ w) → (260 - q).toNat = n → Tm (d + 1) m_X12_routineBy 2 b σ [(3, .int (iI q)), (0, .ref b), (1, .long (w))] [] post := by
  intro n
  induction n using Nat.strongRecOn with
  | _ n ih =>
    intro q h0 hb hm
    refine tm_iload_n dX12_routineBy_2 rfl 0 rfl ?_
    refine tm_aload_n dX12_routineBy_3 rfl 1 rfl ?_
    refine tm_getS (k := 43) (t := σ.1 43) dX12_routineBy_4 (by decide) fl12_376 rfl (rfl) ?_
    have g1 := RG.s hR 43
    refine tm_icmp_ge (tgt := 29) dX12_routineBy_7 (by decide) ⟨by omega, by omega⟩ ⟨by omega, by omega⟩ (fun h2 => ?_) (fun h2 => ?_)
    · exact tm_sub [0, 1, 2] rfl (hx_29 (q) (fun j a c => hb j a (by omega)))
    · refine tm_aload_n dX12_routineBy_10 rfl 1 rfl ?_
      refine tm_get (k := 44) (v := .ref (b + 1 + 22)) lay_12 dX12_routineBy_11 (by decide) fl12_82 rfl ?_
      refine tm_iload_n dX12_routineBy_14 rfl 0 rfl ?_
      refine tm_lald (z := q) (v := σ.2.2 44 q) dX12_routineBy_15 (show mT[22]? = some (44, 3, 260) from rfl) (by omega) (by omega) (by decide) (rfl) ?_
      refine tm_lload_n dX12_routineBy_16 rfl 2 rfl ?_
      refine tm_lcmp dX12_routineBy_17 ?_
      have g3 := lcI_b (σ.2.2 44 q) (w)
      refine tm_if_ne (tgt := 23) dX12_routineBy_18 (by decide) ⟨by omega, by omega⟩ (fun h4 => ?_) (fun h4 => ?_)
      · have h4e : ¬ (σ.2.2 44 q) = (w) := fun q => h4 (lcI_0.mpr q)
        refine tm_iinc (q0 := 0) (L' := [(3, .int (iI (q + 1))), (0, .ref b), (1, .long (w))]) dX12_routineBy_23 rfl (by decide) rfl ?_
        refine tm_goto (tgt := 2) dX12_routineBy_26 (by decide) ?_
        exact tm_sub [0, 1, 2] rfl (ih _ (by omega) (q + 1) (by omega) (fun j a c => (Classical.em (j = q)).elim (fun z => by rw [z]; assumption) (fun z => hb j a (by omega))) rfl)
      · have h4e := lcI_0.mp h4
        refine tm_iload_n dX12_routineBy_21 rfl 0 rfl ?_
        exact tm_iret rfl dX12_routineBy_22 (hr1 q (by omega) (by omega) (by assumption) hb)
set_option maxHeartbeats 4000000 in
set_option maxRecDepth 20000 in
theorem c2_X12_routineBy (d : Nat) {b : Nat} {σ : MS} {w : Int64} (hR : RG σ) (ht : 0 ≤ σ.1 43 ∧ σ.1 43 ≤ 260) : Tm (d + 1) m_X12_routineBy 0 b σ [(0, .ref b), (1, .long (w))] [] (fun ro σ2 => ∃ v : Int, ro = some (.int (iI v)) ∧ σ = σ2 ∧ (-1 ≤ v ∧ v < σ.1 43) ∧ (RBY σ w v)) := by
  refine tm_iconst dX12_routineBy_0 ?_
  refine tm_istore_n (L' := [(3, .int (iI 0)), (0, .ref b), (1, .long (w))]) dX12_routineBy_1 rfl (by decide) rfl ?_
  refine tm_sub [0, 1, 2] rfl (l_routineB2 (d) (σ := σ) (w := w) hR ht (fun q5 f4 => ?_) (fun q a c e f => ⟨_, rfl, rfl, by omega, fun _ => ⟨e, f⟩, fun z => by omega⟩) _ (0) (by omega) (fun j a c => by omega) rfl)
  show Tm _ _ 29 b σ [(3, .int (iI q5)), (0, .ref b), (1, .long (w))] [] _
  refine tm_iconst dX12_routineBy_29 ?_
  exact tm_iret rfl dX12_routineBy_30 (⟨_, rfl, rfl, by omega, fun z => absurd z (by decide), fun _ => f4⟩)
end
section
/-! what lies on the road to an end -/
theorem RCm.mid {s : Int → Int} {a b c : PCf} (h : RCm s a b) (g : RCm s a c) (hc : stp s c = c) : RCm s b c := by
  obtain ⟨n, hn⟩ := h
  obtain ⟨m, hm⟩ := g
  by_cases z : n ≤ m
  · refine ⟨m - n, ?_⟩
    rw [← hn, ← itr_add, show n + (m - n) = m by omega]
    exact hm
  · refine ⟨0, ?_⟩
    have e : itr s n a = itr s (n - m) c := by rw [← hm, ← itr_add]; congr 1; omega
    rw [itr_fix hc] at e
    exact hn.symm.trans e
theorem stp_log {s : Int → Int} {a : PCf} (h : stp s a ≠ pF) : ∃ l, (stp s a).2.2.2.2 = a.2.2.2.2 ++ l := by
  obtain ⟨K, t, x, q, ρ⟩ := a
  cases K with
  | nil => exact ⟨[], (List.append_nil _).symm⟩
  | cons k K =>
    cases e : stk s k t x q with
    | none =>
      exfalso
      apply h
      show (match stk s k t x q with
        | none => pF
        | some r => (r.1 ++ K, r.2.1, r.2.2.1, r.2.2.2.1, ρ ++ r.2.2.2.2)) = _
      rw [e]
    | some r =>
      refine ⟨r.2.2.2.2, ?_⟩
      show (match stk s k t x q with
        | none => pF
        | some r => (r.1 ++ K, r.2.1, r.2.2.1, r.2.2.2.1, ρ ++ r.2.2.2.2)).2.2.2.2 = _
      rw [e]
theorem itr_pF (s : Int → Int) (n : Nat) : itr s n pF = pF := itr_fix (stp_pF s) n
theorem itr_log {s : Int → Int} (n : Nat) (a : PCf) (h : itr s n a ≠ pF) : ∃ l, (itr s n a).2.2.2.2 = a.2.2.2.2 ++ l := by
  induction n generalizing a with
  | zero => exact ⟨[], (List.append_nil _).symm⟩
  | succ n ih =>
    have h2 : itr s n (stp s a) ≠ pF := h
    obtain ⟨l, hl⟩ := ih (stp s a) h2
    have h3 : stp s a ≠ pF := fun e => h2 (by rw [e]; exact itr_pF s n)
    obtain ⟨m, hm⟩ := stp_log h3
    refine ⟨m ++ l, ?_⟩
    show (itr s n (stp s a)).2.2.2.2 = _
    rw [hl, hm, List.append_assoc]
theorem RCm.log {s : Int → Int} {a b : PCf} (h : RCm s a b) (hb : b ≠ pF) : ∃ l, b.2.2.2.2 = a.2.2.2.2 ++ l := by
  obtain ⟨n, hn⟩ := h
  rw [← hn] at hb ⊢
  exact itr_log n a hb
/-- how many routines have ended -/
def nR : List EV → Int
  | [] => 0
  | e :: l => (if e.1 = 0 then 1 else 0) + nR l
theorem nR_app (a b : List EV) : nR (a ++ b) = nR a + nR b := by
  induction a with
  | nil => simp [nR]
  | cons e l ih => simp only [List.cons_append, nR, ih]; omega
theorem nR_0 (a : List EV) : 0 ≤ nR a := by
  induction a with
  | nil => exact Int.le_refl _
  | cons e l ih => simp only [nR]; split <;> omega
end
section
/-! what is told of a go: events, and the pieces that are made -/
def E2 (σ : MS) (e : EV) : Prop := (e.1 = 0 → e.2.1 ≤ 120) ∧ (e.1 = 1 → ∃ v, (0 ≤ v ∧ v < σ.1 43) ∧ RBY σ e.2.2 v ∧ σ.2.1 45 v = e.2.1)
def E3 (σ : MS) (e : EV) : Prop := (e.1 = 0 → e.2.1 ≤ 120) ∧ (e.1 = 1 → ∃ v, (0 ≤ v ∧ v < σ.1 43) ∧ v < 6 ∧ RBY σ e.2.2 v ∧ σ.2.1 11 v = e.2.1)
/-- the tables of what was told stay -/
def TBm (σ τ : MS) : Prop := τ.1 43 = σ.1 43 ∧ τ.2.1 11 = σ.2.1 11 ∧ τ.2.1 45 = σ.2.1 45 ∧ τ.2.2 44 = σ.2.2 44
theorem TBm.of {ss ks js : List Nat} {σ τ : MS} (f : Fr ss ks js σ τ) (h1 : 43 ∉ ss) (h2 : 11 ∉ ks) (h3 : 45 ∉ ks) (h4 : 44 ∉ js) : TBm σ τ := ⟨f.1 43 h1, f.2.1 11 h2, f.2.1 45 h3, f.2.2 44 h4⟩
theorem TBm.trans {σ τ υ : MS} (h : TBm σ τ) (g : TBm τ υ) : TBm σ υ := ⟨g.1.trans h.1, g.2.1.trans h.2.1, g.2.2.1.trans h.2.2.1, g.2.2.2.trans h.2.2.2⟩
theorem RBY.tb {σ τ : MS} {w : Int64} {v : Int} (h : RBY σ w v) (t : TBm σ τ) : RBY τ w v := by unfold RBY; rw [t.1, t.2.2.2]; exact h
theorem RBY.bt {σ τ : MS} {w : Int64} {v : Int} (h : RBY τ w v) (t : TBm σ τ) : RBY σ w v := by unfold RBY at h; rw [t.1, t.2.2.2] at h; exact h
theorem E2.bt {σ τ : MS} {e : EV} (h : E2 τ e) (t : TBm σ τ) : E2 σ e := ⟨h.1, fun z => by
  obtain ⟨v, a, b, c⟩ := h.2 z
  exact ⟨v, by rw [← t.1]; exact a, b.bt t, by rw [← t.2.2.1]; exact c⟩⟩
theorem E3.tb {σ τ : MS} {e : EV} (h : E3 σ e) (t : TBm σ τ) : E3 τ e := ⟨h.1, fun z => by
  obtain ⟨v, a, b, c, d⟩ := h.2 z
  exact ⟨v, by rw [t.1]; exact a, b, c.tb t, by rw [t.2.1]; exact d⟩⟩
def P2F (σ τ : MS) (lg : List EV) : Prop := σ.1 25 = 2 → τ.1 26 = 0 → ∀ e ∈ lg, E2 σ e
theorem P2F.nil {σ τ : MS} : P2F σ τ [] := fun _ _ e h => absurd h (List.not_mem_nil)
theorem P2F.cat {σ τ υ : MS} {l1 l2 : List EV} (h : P2F σ τ l1) (g : P2F τ υ l2) (p : PBF σ τ) (q : PBF τ υ) (t : TBm σ τ) : P2F σ υ (l1 ++ l2) := fun a b e he => by
  have b2 : τ.1 26 = 0 := by
    by_cases z : τ.1 26 = 0
    · exact z
    · exact absurd b (q.2.2.2.2.1.1 z)
  rcases List.mem_append.mp he with x | x
  · exact h a b2 e x
  · exact (g (by rw [p.2.2.2.2.2.2.1]; exact a) b e x).bt t
def SGF (σ τ : MS) (lg : List EV) : Prop := σ.1 25 = 3 → σ.1 30 < 6 → τ.1 34 ≤ 180 → (∀ e ∈ lg, E3 σ e) →
  (∀ k, σ.1 34 ≤ k → k < τ.1 34 → OKI τ 1 (220 * σ.1 30 + k)) ∧ WS (iK τ (σ.1 30)) (iD τ (σ.1 30)) (iO τ (σ.1 30)) (σ.1 43) (σ.1 34) (τ.1 34) (σ.1 33) (τ.1 33)
theorem SGF.cat {σ τ υ : MS} {l1 l2 : List EV} (h : SGF σ τ l1) (g : SGF τ υ l2) (p : PBF σ τ) (q : PBF τ υ) (t : TBm σ τ) (t2 : TBm τ υ) (h30 : 0 ≤ σ.1 30 ∧ 0 ≤ σ.1 34) : SGF σ υ (l1 ++ l2) := fun a b c d => by
  obtain ⟨-, -, -, -, -, p6, p7, p8⟩ := p
  obtain ⟨q1, -, -, -, -, q6, -, -⟩ := q
  have H := h a b (by omega) (fun e x => d e (List.mem_append_left _ x))
  have G := g (by omega) (by omega) c (fun e x => (d e (List.mem_append_right _ x)).tb t)
  rw [p8, t.1] at G
  have ie : ∀ k, σ.1 34 ≤ k → k < τ.1 34 → IEQ τ (220 * σ.1 30 + k) υ (220 * σ.1 30 + k) := fun k x y => q1 _ (by omega) (by omega)
  refine ⟨fun k x y => ?_, (H.2.ext (fun k x y => ?_)).cat G.2⟩
  · by_cases z : k < τ.1 34
    · exact (ie k x z).oki t2.2.1 (H.1 k x z)
    · exact G.1 k (by omega) y
  · have := ie k x y
    exact ⟨this.1, this.2.1, this.2.2.1⟩
theorem SGF.nil {σ τ : MS} {lg : List EV} (h34 : τ.1 34 = σ.1 34) (h33 : σ.1 33 ≤ τ.1 33) : SGF σ τ lg := fun _ _ _ _ => ⟨fun k x y => by omega, by rw [h34]; exact WS.nil h33⟩
/-- numbers worked out are a piece -/
theorem SGF.ac {σ τ : MS} {lg : List EV} (h : AC σ τ) (p : PBF σ τ) (h33 : σ.1 33 ≤ τ.1 33) : SGF σ τ lg := fun a b c _ => by
  have p6 := p.2.2.2.2.2.1
  have key : ∀ k, σ.1 34 ≤ k → k < τ.1 34 → ACI τ (12 + τ.1 34) (220 * σ.1 30 + k) := fun k x y => h a b k x y (by omega)
  refine ⟨fun k x y => ?_, WS.plain h33 p6 (fun k x y => ?_)⟩
  · obtain ⟨c1, c2, c3, c4⟩ := key k x y
    have en : nArgs τ (220 * σ.1 30 + k) = 2 := by
      unfold nArgs
      rw [if_neg (by omega), if_neg (by omega), if_pos c1]
    refine ⟨by omega, by omega, by omega, by omega, by omega, by omega, by omega, fun i i0 i4 => ?_, by omega⟩
    have q := c4 i i0 i4
    refine ⟨q.1, fun z => ?_⟩
    have := q.2 z
    rw [en]
    omega
  · have := (key k x y).1
    simp only [iK]
    omega
end
section
/-! a road of the reader above expressions -/
def TS (k0 : Nat) (n : Int) (σ : MS) (ks : List Nat) (τ : MS) (q : Int → QR) (lg : List EV) : Prop := PBF σ τ ∧ PBC n σ τ ∧ RDY τ ∧ TBm σ τ ∧ P2F σ τ lg ∧ ∀ c : Int, GOS [k0] σ (qq c) ks τ (q c) lg
section TSS
variable {k0 k : Nat} {n m : Int} {σ τ υ : MS} {rest new kk : List Nat} {q q2 : Int → QR} {lg l2 : List EV}
theorem TS.start (hrd : RDY σ) (hnn : NN σ) : TS k0 0 σ [k0] σ qq [] := ⟨PBF.nop hnn (Fr.rfl : Fr [] [] [] σ σ) (by decide) (by decide) (by decide), PBC.nop (Fr.rfl : Fr [] [] [] σ σ) (by decide), hrd, ⟨rfl, rfl, rfl, rfl⟩, P2F.nil, fun _ => GOS.nop rfl rfl⟩
theorem TS.nn (t : TS k0 n σ kk τ q lg) : NN τ := t.1.2.2.1
/-- the general step: from τ to υ -/
theorem TS.go (t : TS k0 n σ (k :: rest) τ q lg) (pb : PBF τ υ) (pc : PBC m τ υ) (hr : RDY υ) (tb : TBm τ υ) (p2 : P2F τ υ l2) (g : ∀ {c : Int}, GOS [k] τ (q c) new υ (q2 c) l2) : TS k0 (n + m) σ (new ++ rest) υ q2 (lg ++ l2) := by
  obtain ⟨t1, t2, t3, t4, t5, t6⟩ := t
  exact ⟨t1.trans pb, t2.trans pc, hr, t4.trans tb, t5.cat p2 t1 pb t4, fun c => (t6 c).trans ((g (c := c)).more rest)⟩
theorem TS.go0 (t : TS k0 n σ (k :: rest) τ q lg) (pb : PBF τ υ) (pc : PBC m τ υ) (hr : RDY υ) (tb : TBm τ υ) (g : ∀ {c : Int}, GOS [k] τ (q c) new υ (q2 c) []) : TS k0 (n + m) σ (new ++ rest) υ q2 lg := by
  have x := t.go pb pc hr tb P2F.nil g
  rw [List.append_nil] at x
  exact x
theorem TS.nxt (t : TS k0 n σ (k :: rest) τ q lg) (g : ∀ {c : Int}, GOS [k] τ (q c) new τ (q2 c) []) : TS k0 n σ (new ++ rest) τ q2 lg := by
  have x := t.go0 (PBF.nop t.nn (Fr.rfl : Fr [] [] [] τ τ) (by decide) (by decide) (by decide)) (PBC.nop (Fr.rfl : Fr [] [] [] τ τ) (by decide)) t.2.2.1 ⟨rfl, rfl, rfl, rfl⟩ g
  rw [Int.add_zero] at x
  exact x
theorem TS.adv (t : TS k0 n σ (k :: rest) τ q lg) (f : Fr [19, 20, 22, 23] [] [24] τ υ) (tok : TOK υ) (p : τ.1 20 ≤ υ.1 19) (hs : τ.1 22 ≠ 0) (g : ∀ {c : Int}, GOS [k] τ (q c) new υ (q2 c) []) : TS k0 (n + 2) σ (new ++ rest) υ q2 lg := by
  have pb : PBF τ υ := PBF.nop t.nn f (by decide) (by decide) (by decide)
  have pc : PBC 2 τ υ := PBC.adv f (t.2.2.1.1.2.1 hs) p
  exact t.go0 pb pc (RDY.of t.2.2.1 ⟨pb.2.2.2.2.2.2.1, pb.2.2.2.2.2.2.2⟩ tok pc (by decide)) (TBm.of f (by decide) (by decide) (by decide) (by decide)) g
theorem TS.needy (t : TS k0 n σ (k :: rest) τ q lg) (f : Fr [19, 20, 22, 23, 26, 27] [] [24] τ υ) (tok : TOK υ) (p : τ.1 20 ≤ υ.1 19) (h26 : υ.1 26 = τ.1 26) (hs : τ.1 22 ≠ 0) (g : ∀ {c : Int}, GOS [k] τ (q c) new υ (q2 c) []) : TS k0 (n + 2) σ (new ++ rest) υ q2 lg := by
  have pb : PBF τ υ := PBF.of t.nn f (by decide) (by decide) (by decide) (FLT.eq h26)
  have pc : PBC 2 τ υ := by
    have h0 := t.2.2.1.1.2.1 hs
    unfold PBC
    rw [f.1 34 (by decide), f.1 32 (by decide), f.1 31 (by decide), f.1 33 (by decide)]
    omega
  exact t.go0 pb pc (RDY.of t.2.2.1 ⟨pb.2.2.2.2.2.2.1, pb.2.2.2.2.2.2.2⟩ tok pc (by decide)) (TBm.of f (by decide) (by decide) (by decide) (by decide)) g
/-- an expression behind -/
theorem TS.exp (t : TS k0 n σ (2 :: rest) τ q lg) (f : Fr [19, 20, 22, 23, 26, 27, 28, 32, 34, 39, 40] [3, 4, 5, 6, 7, 8, 35] [24, 38] τ υ) (pb : PBF τ υ) (e : EXS τ υ) (g : ∀ q, GOS [2] τ q [] υ q []) : TS k0 (n + 2) σ rest υ q lg := t.go0 pb e.2.1 e.1 (TBm.of f (by decide) (by decide) (by decide) (by decide)) (g _)
/-- nothing that counts -/
theorem TS.keep {ss ks js : List Nat} (t : TS k0 n σ kk τ q lg) (f : Fr ss ks js τ υ) (hs : ∀ j ∈ [19, 20, 21, 22, 23, 25, 26, 27, 28, 29, 30, 31, 32, 33, 34, 43], j ∉ ss) (hk : ∀ j ∈ [1, 3, 4, 5, 6, 7, 8, 11, 35, 36, 45], j ∉ ks) (hj : 24 ∉ js) (hj4 : ∀ j ∈ [38, 44], j ∉ js) (pb : PBF τ υ) : TS k0 n σ kk υ q lg := by
  have e := fun j h => f.1 j (hs j h)
  have pc : PBC 0 τ υ := PBC.nop f (fun j q => hs j (by revert j q; decide))
  have tb : TBm τ υ := TBm.of f (hs 43 (by decide)) (hk 11 (by decide)) (hk 45 (by decide)) (hj4 44 (by decide))
  obtain ⟨t1, t2, t3, t4, t5, t6⟩ := t
  refine ⟨t1.trans pb, by have := t2.trans pc; rw [Int.add_zero] at this; exact this, RDY.of t3 ⟨pb.2.2.2.2.2.2.1, pb.2.2.2.2.2.2.2⟩ ?_ pc (by decide), t4.trans tb, by have := t5.cat (P2F.nil (τ := υ)) t1 pb t4; rw [List.append_nil] at this; exact this, fun c => (t6 c).last (vw_fr f (fun j q => hs j (by revert j q; decide)) (hk 1 (by decide)) hj) (srt_fr f (fun j q => hs j (by revert j q; decide)) (fun j q => hk j (by revert j q; decide)) hj4)⟩
  unfold TOK
  rw [e 19 (by decide), e 20 (by decide), e 21 (by decide), e 22 (by decide), e 23 (by decide)]
  exact t3.1
theorem TS.fail (t : TS k0 n σ (k :: rest) τ q lg) (pb : PBF τ υ) (g : ∀ {c : Int}, GOF [k] τ (q c) υ) : PBF σ υ ∧ ∀ c : Int, GOF [k0] σ (qq c) υ := ⟨t.1.trans pb, fun c => (t.2.2.2.2.2 c).fail ((g (c := c)).more rest)⟩
end TSS
end
section
section TSP
variable {k0 k : Nat} {n m : Int} {σ τ υ : MS} {rest : List Nat} {q : Int → QR} {lg : List EV}
/-- m items are put, m labels at most are new -/
theorem TS.puts (t : TS k0 n σ (k :: rest) τ q lg) (f : Fr [33, 34] [3, 4, 5, 6, 7, 8] [] τ υ) (pb : PBF τ υ) (e : υ.1 34 = τ.1 34 + m) (e33 : τ.1 33 ≤ υ.1 33 ∧ υ.1 33 ≤ τ.1 33 + m) (hn : m ≤ n) (hrd : RDY σ) (g : ∀ {c : Int}, GOS [k] τ (q c) [] υ (q c) []) : TS k0 (n - m) σ rest υ q lg := by
  have pc : PBC (-m) τ υ := by
    unfold PBC
    rw [f.1 19 (by decide), f.1 31 (by decide), f.1 32 (by decide), e]
    omega
  have pc2 : PBC (n - m) σ υ := t.2.1.trans pc
  have p2 := t.1.trans pb
  have hr : RDY υ := RDY.of hrd ⟨p2.2.2.2.2.2.2.1, p2.2.2.2.2.2.2.2⟩ (by
    unfold TOK
    rw [f.1 19 (by decide), f.1 20 (by decide), f.1 21 (by decide), f.1 22 (by decide), f.1 23 (by decide)]
    exact t.2.2.1.1) pc2 (by omega)
  exact t.go0 pb pc hr (TBm.of f (by decide) (by decide) (by decide) (by decide)) g
theorem CHG.put {ss ks js : List Nat} {c : Int} (f : Fr ss ks js τ υ) (hs : ∀ j ∈ [19, 20, 21, 22, 23, 28, 29, 25, 26, 27, 30, 31, 43], j ∉ ss) (hk : ∀ j ∈ [1, 35, 36, 45], j ∉ ks) (hj : ∀ j ∈ [24, 38, 44], j ∉ js) (e : υ.1 34 = c) : CHG τ υ (τ.1 28, τ.1 29, c) := by
  refine ⟨?_, ?_, sv_fr f (hs 21 (by decide)) (hk 1 (by decide)), srt_fr f (fun j q => hs j (by revert j q; decide)) (fun j q => hk j (by revert j q; decide)) (fun j q => hj j (by revert j q; decide))⟩
  · unfold tks
    rw [f.1 19 (hs 19 (by decide)), f.1 20 (hs 20 (by decide)), f.1 22 (hs 22 (by decide)), f.1 23 (hs 23 (by decide)), f.2.2 24 (hj 24 (by decide))]
  · unfold xs
    rw [f.1 28 (hs 28 (by decide)), f.1 29 (hs 29 (by decide)), e]
/-- a block's end, or its begin: openBlocks -/
theorem TS.blk {new : List Nat} (t : TS k0 n σ (k :: rest) τ q lg) (f : Fr [29] [] [] τ υ) (g : ∀ {c : Int}, GOS [k] τ (q c) new υ (q c) []) : TS k0 n σ (new ++ rest) υ q lg := by
  have pb : PBF τ υ := PBF.nop t.nn f (by decide) (by decide) (by decide)
  have pc : PBC 0 τ υ := PBC.nop f (by decide)
  have x := t.go0 pb pc (RDY.of t.2.2.1 ⟨pb.2.2.2.2.2.2.1, pb.2.2.2.2.2.2.2⟩ (by
    unfold TOK
    rw [f.1 19 (by decide), f.1 20 (by decide), f.1 21 (by decide), f.1 22 (by decide), f.1 23 (by decide)]
    exact t.2.2.1.1) pc (by decide)) (TBm.of f (by decide) (by decide) (by decide) (by decide)) g
  rw [Int.add_zero] at x
  exact x
end TSP
/-- a single item that is no label, no jump, no call -/
theorem SGF.one {σ τ : MS} {lg : List EV} (h34 : τ.1 34 = σ.1 34 + 1) (h33 : σ.1 33 ≤ τ.1 33) (o : σ.1 25 = 3 → σ.1 30 < 6 → σ.1 34 < 180 → OKI τ 1 (PXx σ)) (k : τ.2.1 3 (PXx σ) ≠ 8 ∧ τ.2.1 3 (PXx σ) ≠ 9 ∧ τ.2.1 3 (PXx σ) ≠ 10 ∧ τ.2.1 3 (PXx σ) ≠ 13 ∧ τ.2.1 3 (PXx σ) ≠ 14 ∧ τ.2.1 3 (PXx σ) ≠ 15) : SGF σ τ lg := fun a b c _ => by
  have e : PXx σ = 220 * σ.1 30 + σ.1 34 := by unfold PXx; rw [if_pos (by omega)]
  have o2 := o a b (by omega)
  rw [e] at k o2
  refine ⟨fun j x y => ?_, WS.plain h33 (by omega) (fun j x y => ?_)⟩
  · rw [show j = σ.1 34 by omega]; exact o2
  · rw [show j = σ.1 34 by omega]; exact k
end
section
/-- ZERO, a piece, LABEL -/
theorem SGF.ifs {σ τ υ ω : MS} {lg : List EV} (h1 : τ.1 34 = σ.1 34 + 1 ∧ τ.1 33 = σ.1 33 + 1) (z : τ.2.1 3 (PXx σ) = 9 ∧ τ.2.1 4 (PXx σ) = σ.1 33) (oz : σ.1 25 = 3 → σ.1 30 < 6 → σ.1 34 < 180 → OKI τ 1 (PXx σ)) (p1 : PBF σ τ) (b : SGF τ υ lg) (p2 : PBF τ υ)
    (h3 : ω.1 34 = υ.1 34 + 1 ∧ ω.1 33 = υ.1 33) (l : ω.2.1 3 (PXx υ) = 13 ∧ ω.2.1 4 (PXx υ) = σ.1 33) (ol : υ.1 25 = 3 → υ.1 30 < 6 → υ.1 34 < 180 → OKI ω 1 (PXx υ)) (p3 : PBF υ ω) (t1 : TBm σ τ) (t2 : TBm τ υ) (t3 : TBm υ ω) (h0 : 0 ≤ σ.1 30 ∧ 0 ≤ σ.1 34) : SGF σ ω lg := fun a r c d => by
  have q6 := p2.2.2.2.2.2.1
  have e25 : τ.1 25 = σ.1 25 ∧ υ.1 25 = τ.1 25 := ⟨p1.2.2.2.2.2.2.1, p2.2.2.2.2.2.2.1⟩
  have e30 : τ.1 30 = σ.1 30 ∧ υ.1 30 = τ.1 30 := ⟨p1.2.2.2.2.2.2.2, p2.2.2.2.2.2.2.2⟩
  have xσ : PXx σ = 220 * σ.1 30 + σ.1 34 := by unfold PXx; rw [if_pos (by omega)]
  have xυ : PXx υ = 220 * σ.1 30 + υ.1 34 := by unfold PXx; rw [if_pos (by omega)]; omega
  have oz2 := oz a r (by omega)
  have ol2 := ol (by omega) (by omega) (by omega)
  rw [xσ] at z oz2
  rw [xυ] at l ol2
  have B := b (by omega) (by omega) (by omega) (fun e x => (d e x).tb t1)
  rw [e30.1, t1.1, h1.1, h1.2] at B
  have i3 : ∀ k, 0 ≤ k → k < υ.1 34 → IEQ υ (220 * σ.1 30 + k) ω (220 * σ.1 30 + k) := fun k x y => p3.1 _ (by omega) (by omega)
  have i2 : IEQ τ (220 * σ.1 30 + σ.1 34) ω (220 * σ.1 30 + σ.1 34) := (p2.1 _ (by omega) (by omega)).trans (i3 _ h0.2 (by omega))
  refine ⟨fun k x y => ?_, ?_⟩
  · by_cases k1 : k = σ.1 34
    · rw [k1]; exact i2.oki (t3.2.1.trans t2.2.1) oz2
    · by_cases k2 : k = υ.1 34
      · rw [k2]; exact ol2
      · exact (i3 k (by omega) (by omega)).oki t3.2.1 (B.1 k (by omega) (by omega))
  · rw [h3.1, h3.2]
    refine WS.ifs (B.2.ext (fun k x y => ?_)) ⟨?_, ?_⟩ ⟨l.1, l.2⟩
    · have := i3 k (by omega) y
      exact ⟨this.1, this.2.1, this.2.2.1⟩
    · exact i2.1.trans z.1
    · exact i2.2.1.trans z.2
end
section
/-- LABEL, LINE, numbers, ZERO, a piece, JUMP, LABEL -/
theorem SGF.whl {σ τ υ φ χ ω : MS} {lg : List EV} (h1 : τ.1 34 = σ.1 34 + 2 ∧ τ.1 33 = σ.1 33 + 1) (z : σ.1 25 = 3 → σ.1 30 < 6 → σ.1 34 + 1 < 180 → ((τ.2.1 3 (220 * σ.1 30 + σ.1 34) = 13 ∧ τ.2.1 4 (220 * σ.1 30 + σ.1 34) = σ.1 33) ∧ τ.2.1 3 (220 * σ.1 30 + (σ.1 34 + 1)) = 11) ∧ OKI τ 1 (220 * σ.1 30 + σ.1 34) ∧ OKI τ 1 (220 * σ.1 30 + (σ.1 34 + 1))) (p1 : PBF σ τ)
    (ac : AC τ υ) (p2 : PBF τ υ) (h2 : υ.1 33 = τ.1 33)
    (h3 : φ.1 34 = υ.1 34 + 1 ∧ φ.1 33 = υ.1 33 + 1) (y : υ.1 25 = 3 → υ.1 30 < 6 → υ.1 34 < 180 → (φ.2.1 3 (220 * υ.1 30 + υ.1 34) = 9 ∧ φ.2.1 4 (220 * υ.1 30 + υ.1 34) = υ.1 33) ∧ OKI φ 1 (220 * υ.1 30 + υ.1 34)) (p3 : PBF υ φ)
    (b : SGF φ χ lg) (p4 : PBF φ χ)
    (h5 : ω.1 34 = χ.1 34 + 2 ∧ ω.1 33 = χ.1 33) (x : χ.1 25 = 3 → χ.1 30 < 6 → χ.1 34 + 1 < 180 → ((ω.2.1 3 (220 * χ.1 30 + χ.1 34) = 8 ∧ ω.2.1 4 (220 * χ.1 30 + χ.1 34) = σ.1 33) ∧ ω.2.1 3 (220 * χ.1 30 + (χ.1 34 + 1)) = 13 ∧ ω.2.1 4 (220 * χ.1 30 + (χ.1 34 + 1)) = σ.1 33 + 1) ∧ OKI ω 1 (220 * χ.1 30 + χ.1 34) ∧ OKI ω 1 (220 * χ.1 30 + (χ.1 34 + 1))) (p5 : PBF χ ω)
    (t1 : TBm σ τ) (t2 : TBm τ υ) (t3 : TBm υ φ) (t4 : TBm φ χ) (t5 : TBm χ ω) (h0 : 0 ≤ σ.1 30 ∧ 0 ≤ σ.1 34) : SGF σ ω lg := fun a r c d => by
  have m2 := p2.2.2.2.2.2.1
  have m4 := p4.2.2.2.2.2.1
  have e25 : τ.1 25 = σ.1 25 ∧ υ.1 25 = τ.1 25 ∧ φ.1 25 = υ.1 25 ∧ χ.1 25 = φ.1 25 := ⟨p1.2.2.2.2.2.2.1, p2.2.2.2.2.2.2.1, p3.2.2.2.2.2.2.1, p4.2.2.2.2.2.2.1⟩
  have e30 : τ.1 30 = σ.1 30 ∧ υ.1 30 = τ.1 30 ∧ φ.1 30 = υ.1 30 ∧ χ.1 30 = φ.1 30 := ⟨p1.2.2.2.2.2.2.2, p2.2.2.2.2.2.2.2, p3.2.2.2.2.2.2.2, p4.2.2.2.2.2.2.2⟩
  have Z := z a r (by omega)
  have Y := y (by omega) (by omega) (by omega)
  have X := x (by omega) (by omega) (by omega)
  have u30 : υ.1 30 = σ.1 30 := by omega
  have f30 : φ.1 30 = σ.1 30 := by omega
  have x30 : χ.1 30 = σ.1 30 := by omega
  rw [u30] at Y
  rw [x30] at X
  have B := b (by omega) (by omega) (by omega) (fun e w => (d e w).tb (t1.trans (t2.trans t3)))
  rw [f30, (t1.trans (t2.trans t3)).1] at B
  have i5 : ∀ k, 0 ≤ k → k < χ.1 34 → IEQ χ (220 * σ.1 30 + k) ω (220 * σ.1 30 + k) := fun k u w => p5.1 _ (by omega) (by omega)
  have i4 : ∀ k, 0 ≤ k → k < φ.1 34 → IEQ φ (220 * σ.1 30 + k) ω (220 * σ.1 30 + k) := fun k u w => (p4.1 _ (by omega) (by omega)).trans (i5 k u (by omega))
  have i3 : ∀ k, 0 ≤ k → k < υ.1 34 → IEQ υ (220 * σ.1 30 + k) ω (220 * σ.1 30 + k) := fun k u w => (p3.1 _ (by omega) (by omega)).trans (i4 k u (by omega))
  have i2 : ∀ k, 0 ≤ k → k < τ.1 34 → IEQ τ (220 * σ.1 30 + k) ω (220 * σ.1 30 + k) := fun k u w => (p2.1 _ (by omega) (by omega)).trans (i3 k u (by omega))
  have A := SGF.ac (lg := []) ac p2 (by omega) (by omega) (by omega) (by omega) (fun e w => absurd w (List.not_mem_nil))
  rw [e30.1] at A
  have ak : ∀ k, τ.1 34 ≤ k → k < υ.1 34 → 1 ≤ υ.2.1 3 (220 * σ.1 30 + k) ∧ υ.2.1 3 (220 * σ.1 30 + k) ≤ 5 := fun k u w => by
    have := (ac (by omega) (by omega) k u w (by omega)).1
    rw [e30.1] at this
    exact this
  have q3 := t5.2.1
  have q4 := q3.trans t4.2.1
  refine ⟨fun k u w => ?_, ?_⟩
  · by_cases k1 : k < τ.1 34
    · by_cases k0 : k = σ.1 34
      · rw [k0]; exact (i2 _ h0.2 (by omega)).oki (q4.trans (t3.2.1.trans t2.2.1)) Z.2.1
      · rw [show k = σ.1 34 + 1 by omega]; exact (i2 _ (by omega) (by omega)).oki (q4.trans (t3.2.1.trans t2.2.1)) Z.2.2
    · by_cases k2 : k < υ.1 34
      · exact (i3 k (by omega) k2).oki (q4.trans t3.2.1) (A.1 k (by omega) k2)
      · by_cases k3 : k = υ.1 34
        · rw [k3]; exact (i4 _ (by omega) (by omega)).oki q4 Y.2
        · by_cases k4 : k < χ.1 34
          · exact (i5 k (by omega) k4).oki q3 (B.1 k (by omega) k4)
          · by_cases k5 : k = χ.1 34
            · rw [k5]; exact X.2.1
            · rw [show k = χ.1 34 + 1 by omega]; exact X.2.2
  · rw [h5.1, h5.2]
    refine WS.whl (m := υ.1 34) (l1 := χ.1 33) ?_ (by omega) ⟨?_, ?_⟩ ?_ (fun k u w => ?_) ⟨?_, ?_⟩ ⟨X.1.1.1, X.1.1.2⟩ ⟨X.1.2.1, X.1.2.2⟩
    · have g := B.2.ext (K' := iK ω (σ.1 30)) (D' := iD ω (σ.1 30)) (O' := iO ω (σ.1 30)) (fun k u w => ⟨(i5 k (by omega) w).1, (i5 k (by omega) w).2.1, (i5 k (by omega) w).2.2.1⟩)
      rw [h3.1, h3.2, h2, h1.2, show σ.1 33 + 1 + 1 = σ.1 33 + 2 by omega] at g
      exact g
    · exact (i2 _ h0.2 (by omega)).1.trans Z.1.1.1
    · exact (i2 _ h0.2 (by omega)).2.1.trans Z.1.1.2
    · exact (i2 _ (by omega) (by omega)).1.trans Z.1.2
    · have := ak k (by omega) w
      have e := (i3 k (by omega) w).1
      show 0 ≤ ω.2.1 3 (220 * σ.1 30 + k) ∧ ω.2.1 3 (220 * σ.1 30 + k) ≤ 5
      rw [e]; omega
    · exact (i4 _ (by omega) (by omega)).1.trans Y.1.1
    · exact ((i4 _ (by omega) (by omega)).2.1.trans Y.1.2).trans (by omega)
end
section
/-- ZERO, a piece, JUMP, LABEL, a piece, LABEL -/
theorem SGF.ife {σ τ υ φ χ ω : MS} {l1 l2 : List EV} (h1 : τ.1 34 = σ.1 34 + 1 ∧ τ.1 33 = σ.1 33 + 1) (z : σ.1 25 = 3 → σ.1 30 < 6 → σ.1 34 < 180 → (τ.2.1 3 (220 * σ.1 30 + σ.1 34) = 9 ∧ τ.2.1 4 (220 * σ.1 30 + σ.1 34) = σ.1 33) ∧ OKI τ 1 (220 * σ.1 30 + σ.1 34)) (p1 : PBF σ τ)
    (b1 : SGF τ υ l1) (p2 : PBF τ υ)
    (h3 : φ.1 34 = υ.1 34 + 2 ∧ φ.1 33 = υ.1 33 + 1) (y : υ.1 25 = 3 → υ.1 30 < 6 → υ.1 34 + 1 < 180 → ((φ.2.1 3 (220 * υ.1 30 + υ.1 34) = 8 ∧ φ.2.1 4 (220 * υ.1 30 + υ.1 34) = υ.1 33) ∧ φ.2.1 3 (220 * υ.1 30 + (υ.1 34 + 1)) = 13 ∧ φ.2.1 4 (220 * υ.1 30 + (υ.1 34 + 1)) = σ.1 33) ∧ OKI φ 1 (220 * υ.1 30 + υ.1 34) ∧ OKI φ 1 (220 * υ.1 30 + (υ.1 34 + 1))) (p3 : PBF υ φ)
    (b2 : SGF φ χ l2) (p4 : PBF φ χ)
    (h5 : ω.1 34 = χ.1 34 + 1 ∧ ω.1 33 = χ.1 33) (x : χ.1 25 = 3 → χ.1 30 < 6 → χ.1 34 < 180 → (ω.2.1 3 (220 * χ.1 30 + χ.1 34) = 13 ∧ ω.2.1 4 (220 * χ.1 30 + χ.1 34) = υ.1 33) ∧ OKI ω 1 (220 * χ.1 30 + χ.1 34)) (p5 : PBF χ ω)
    (t1 : TBm σ τ) (t2 : TBm τ υ) (t3 : TBm υ φ) (t4 : TBm φ χ) (t5 : TBm χ ω) (h0 : 0 ≤ σ.1 30 ∧ 0 ≤ σ.1 34) : SGF σ ω (l1 ++ l2) := fun a r c d => by
  have m2 := p2.2.2.2.2.2.1
  have m4 := p4.2.2.2.2.2.1
  have e25 : τ.1 25 = σ.1 25 ∧ υ.1 25 = τ.1 25 ∧ φ.1 25 = υ.1 25 ∧ χ.1 25 = φ.1 25 := ⟨p1.2.2.2.2.2.2.1, p2.2.2.2.2.2.2.1, p3.2.2.2.2.2.2.1, p4.2.2.2.2.2.2.1⟩
  have e30 : τ.1 30 = σ.1 30 ∧ υ.1 30 = τ.1 30 ∧ φ.1 30 = υ.1 30 ∧ χ.1 30 = φ.1 30 := ⟨p1.2.2.2.2.2.2.2, p2.2.2.2.2.2.2.2, p3.2.2.2.2.2.2.2, p4.2.2.2.2.2.2.2⟩
  have Z := z a r (by omega)
  have Y := y (by omega) (by omega) (by omega)
  have X := x (by omega) (by omega) (by omega)
  have u30 : υ.1 30 = σ.1 30 := by omega
  have f30 : φ.1 30 = σ.1 30 := by omega
  have x30 : χ.1 30 = σ.1 30 := by omega
  rw [u30] at Y
  rw [x30] at X
  have A := b1 (by omega) (by omega) (by omega) (fun e w => (d e (List.mem_append_left _ w)).tb t1)
  rw [e30.1, t1.1] at A
  have B := b2 (by omega) (by omega) (by omega) (fun e w => (d e (List.mem_append_right _ w)).tb (t1.trans (t2.trans t3)))
  rw [f30, (t1.trans (t2.trans t3)).1] at B
  have i5 : ∀ k, 0 ≤ k → k < χ.1 34 → IEQ χ (220 * σ.1 30 + k) ω (220 * σ.1 30 + k) := fun k u w => p5.1 _ (by omega) (by omega)
  have i4 : ∀ k, 0 ≤ k → k < φ.1 34 → IEQ φ (220 * σ.1 30 + k) ω (220 * σ.1 30 + k) := fun k u w => (p4.1 _ (by omega) (by omega)).trans (i5 k u (by omega))
  have i3 : ∀ k, 0 ≤ k → k < υ.1 34 → IEQ υ (220 * σ.1 30 + k) ω (220 * σ.1 30 + k) := fun k u w => (p3.1 _ (by omega) (by omega)).trans (i4 k u (by omega))
  have i2 : ∀ k, 0 ≤ k → k < τ.1 34 → IEQ τ (220 * σ.1 30 + k) ω (220 * σ.1 30 + k) := fun k u w => (p2.1 _ (by omega) (by omega)).trans (i3 k u (by omega))
  have q3 := t5.2.1
  have q4 := q3.trans t4.2.1
  refine ⟨fun k u w => ?_, ?_⟩
  · by_cases k1 : k = σ.1 34
    · rw [k1]; exact (i2 _ h0.2 (by omega)).oki (q4.trans (t3.2.1.trans t2.2.1)) Z.2
    · by_cases k2 : k < υ.1 34
      · exact (i3 k (by omega) k2).oki (q4.trans t3.2.1) (A.1 k (by omega) k2)
      · by_cases k3 : k = υ.1 34
        · rw [k3]; exact (i4 _ (by omega) (by omega)).oki q4 Y.2.1
        · by_cases k4 : k = υ.1 34 + 1
          · rw [k4]; exact (i4 _ (by omega) (by omega)).oki q4 Y.2.2
          · by_cases k5 : k < χ.1 34
            · exact (i5 k (by omega) k5).oki q3 (B.1 k (by omega) k5)
            · rw [show k = χ.1 34 by omega]; exact X.2
  · rw [h5.1, h5.2]
    refine WS.ife (b := υ.1 34) (l1 := υ.1 33) ?_ ?_ ⟨?_, ?_⟩ ⟨?_, ?_⟩ ⟨?_, ?_⟩ ⟨X.1.1, X.1.2⟩
    · have g := A.2.ext (K' := iK ω (σ.1 30)) (D' := iD ω (σ.1 30)) (O' := iO ω (σ.1 30)) (fun k u w => ⟨(i3 k (by omega) w).1, (i3 k (by omega) w).2.1, (i3 k (by omega) w).2.2.1⟩)
      rw [h1.1, h1.2] at g
      exact g
    · have g := B.2.ext (K' := iK ω (σ.1 30)) (D' := iD ω (σ.1 30)) (O' := iO ω (σ.1 30)) (fun k u w => ⟨(i5 k (by omega) w).1, (i5 k (by omega) w).2.1, (i5 k (by omega) w).2.2.1⟩)
      rw [h3.1, h3.2] at g
      exact g
    · exact (i2 _ h0.2 (by omega)).1.trans Z.1.1
    · exact (i2 _ h0.2 (by omega)).2.1.trans Z.1.2
    · exact (i4 _ (by omega) (by omega)).1.trans Y.1.1.1
    · exact (i4 _ (by omega) (by omega)).2.1.trans Y.1.1.2
    · exact (i4 _ (by omega) (by omega)).1.trans Y.1.2.1
    · exact (i4 _ (by omega) (by omega)).2.1.trans Y.1.2.2
end
section
/-- items without arguments: LINE, LABEL, JUMP -/
theorem oki_bare {τ : MS} {x k d : Int} (h : ITz τ x k d 0) (hk : k = 11 ∨ k = 13 ∨ k = 8) (hd : k ≠ 11 → 0 ≤ d ∧ d < 4096) : OKI τ 1 x := by
  obtain ⟨h1, h2, h3, h4, h5⟩ := h
  refine ⟨by omega, by omega, by omega, by omega, by omega, by omega, by omega, fun i i0 i4 => ?_, by omega⟩
  rw [h5 i i0 i4]
  exact ⟨by omega, fun w => by omega⟩
/-- items with one: COPY, OUT, RETURN, ZERO -/
theorem oki_arg1 {σ : MS} {x k d ak a : Int} (h : ITz σ x k d 0) (hk : k = 0 ∨ k = 6 ∨ k = 7 ∨ k = 9) (hd : k = 0 → 0 ≤ d ∧ d < 192) (hd9 : k = 9 → 0 ≤ d ∧ d < 4096) (ha : (0 ≤ ak ∧ ak ≤ 2) ∧ (ak = 2 → 0 ≤ a ∧ a < 192)) : OKI (fArg x 0 ak a σ) 1 x := by
  have e3 : (fArg x 0 ak a σ).2.1 3 x = k := h.1
  have e4 : (fArg x 0 ak a σ).2.1 4 x = d := h.2.1
  have e5 : (fArg x 0 ak a σ).2.1 5 x = 0 := h.2.2.1
  have en : nArgs (fArg x 0 ak a σ) x = 1 := by
    unfold nArgs
    rw [e3]
    rcases hk with e | e | e | e <;> subst e <;> simp
  refine ⟨by omega, by omega, by omega, by omega, by omega, by omega, by omega, fun i i0 i4 => ?_, by omega⟩
  by_cases z : i = 0
  · rw [z, fArg_at.1, fArg_at.2, en]
    exact ⟨ha.1, fun w => ⟨ha.2 w, by omega⟩⟩
  · rw [(fArg_ne z).1, (fArg_ne z).2, en]
    have q : σ.2.1 7 (4 * x + i) = 0 := h.2.2.2.2 i i0 i4
    rw [q]
    exact ⟨by omega, fun w => by omega⟩
end
section
/-! statements: what stands behind a LINE, and what a statement begins with -/
theorem WS.line {K D O : Int → Int} {R a b l0 l1 : Int} (hl : l0 ≤ l1) (hab : a < b) (h1 : K a = 11 ∧ O a = 0) (h2 : ∀ k, a < k → k < b → (K k ≠ 8 ∧ K k ≠ 9 ∧ K k ≠ 13 ∧ K k ≠ 14 ∧ K k ≠ 15) ∧ (K k = 10 → (0 ≤ O k ∧ O k < R) ∧ ∀ i, a < i → i < k → 0 ≤ K i ∧ K i ≤ 5)) : WS K D O R a b l0 l1 := by
  have nk : ∀ k, a ≤ k → k < b → K k ≠ 8 ∧ K k ≠ 9 ∧ K k ≠ 13 ∧ K k ≠ 14 ∧ K k ≠ 15 := fun k x y => by
    by_cases e : k = a
    · rw [e]; omega
    · exact (h2 k (by omega) y).1
  refine ⟨⟨hl, by omega⟩, fun k x y => ⟨(nk k x y).2.2.2.1, (nk k x y).2.2.2.2, fun z => ?_⟩, fun k x y z => ?_, fun p j x y u w e f i => ?_, fun k x y z => ?_⟩
  · have := nk k x y; omega
  · have := nk k x y; omega
  · have := nk p x y; omega
  · by_cases e : k = a
    · rw [e] at z; omega
    · have q := (h2 k (by omega) y).2 z
      exact ⟨q.1, a, by omega, by omega, h1.1, h1.2, fun i x2 y2 => q.2 i x2 y2⟩
def FS (σ τ : MS) : Prop := σ.1 25 = 3 → σ.1 30 < 6 → τ.1 34 ≤ 180 → τ.1 34 = σ.1 34 ∨ (τ.2.1 3 (220 * σ.1 30 + σ.1 34) = 11 ∧ σ.1 34 < τ.1 34) ∨ ((τ.2.1 3 (220 * σ.1 30 + σ.1 34) = 13 ∧ τ.2.1 3 (220 * σ.1 30 + (σ.1 34 + 1)) = 11) ∧ σ.1 34 + 1 < τ.1 34)
theorem FS.cat {σ τ υ : MS} (h : FS σ τ) (g : FS τ υ) (p : PBF σ τ) (q : PBF τ υ) (h0 : 0 ≤ σ.1 30 ∧ 0 ≤ σ.1 34) : FS σ υ := fun a b c => by
  obtain ⟨-, -, -, -, -, p6, p7, p8⟩ := p
  obtain ⟨q1, -, -, -, -, q6, -, -⟩ := q
  have H := h a b (by omega)
  have ie : ∀ k, σ.1 34 ≤ k → k < τ.1 34 → IEQ τ (220 * σ.1 30 + k) υ (220 * σ.1 30 + k) := fun k x y => q1 _ (by omega) (by omega)
  rcases H with e | e | e
  · have G := g (by omega) (by omega) c
    rw [p8, e] at G
    exact G
  · exact Or.inr (Or.inl ⟨(ie _ (Int.le_refl _) e.2).1.trans e.1, by omega⟩)
  · exact Or.inr (Or.inr ⟨⟨(ie _ (Int.le_refl _) (by omega)).1.trans e.1.1, (ie _ (by omega) e.2).1.trans e.1.2⟩, by omega⟩)
theorem FS.nil {σ τ : MS} (h : τ.1 34 = σ.1 34) : FS σ τ := fun _ _ _ => Or.inl h
/-- what stands behind a LINE: no labels, a call with numbers alone ahead of it -/
def ASF (σ τ : MS) (lg : List EV) : Prop := σ.1 25 = 3 → σ.1 30 < 6 → τ.1 34 ≤ 180 → (∀ e ∈ lg, E3 σ e) → ∀ k, σ.1 34 ≤ k → k < τ.1 34 → OKI τ 1 (220 * σ.1 30 + k) ∧ (iK τ (σ.1 30) k ≠ 8 ∧ iK τ (σ.1 30) k ≠ 9 ∧ iK τ (σ.1 30) k ≠ 13 ∧ iK τ (σ.1 30) k ≠ 14 ∧ iK τ (σ.1 30) k ≠ 15) ∧ (iK τ (σ.1 30) k = 10 → (0 ≤ iO τ (σ.1 30) k ∧ iO τ (σ.1 30) k < σ.1 43) ∧ ∀ i, σ.1 34 ≤ i → i < k → 0 ≤ iK τ (σ.1 30) i ∧ iK τ (σ.1 30) i ≤ 5)
theorem ASF.num {σ τ : MS} {lg : List EV} (h : AC σ τ) (p : PBF σ τ) (h33 : σ.1 33 ≤ τ.1 33) : ASF σ τ lg := fun a b c d k x y => by
  have A := (SGF.ac (lg := lg) h p h33 a b c d).1 k x y
  have ck := (h a b k x y (by omega)).1
  refine ⟨A, ?_, fun z => ?_⟩
  · simp only [iK]; omega
  · simp only [iK] at z; omega
theorem ASF.mv {σ τ υ : MS} {lg : List EV} (h : ASF σ τ lg) (p : PBF σ τ) (q : PBF τ υ) (t2 : TBm τ υ) (e : υ.1 34 = τ.1 34) (h0 : 0 ≤ σ.1 30 ∧ 0 ≤ σ.1 34) : ASF σ υ lg := fun a b c d k x y => by
  have e25 : τ.1 25 = σ.1 25 := p.2.2.2.2.2.2.1
  have e30 : τ.1 30 = σ.1 30 := p.2.2.2.2.2.2.2
  have H := h a b (by omega) d
  have ie : ∀ k, σ.1 34 ≤ k → k < τ.1 34 → IEQ τ (220 * σ.1 30 + k) υ (220 * σ.1 30 + k) := fun k x y => q.1 _ (by omega) (by omega)
  have A := H k x (by omega)
  have I := ie k x (by omega)
  refine ⟨I.oki t2.2.1 A.1, ?_, fun w => ?_⟩
  · simp only [iK]; rw [I.1]; exact A.2.1
  · simp only [iK] at w; rw [I.1] at w
    have B := A.2.2 w
    refine ⟨by simp only [iO]; rw [I.2.2.1]; exact B.1, fun i u v => ?_⟩
    simp only [iK]; rw [(ie i u (by omega)).1]; exact B.2 i u v
theorem ASF.snoc {σ τ υ : MS} {lg : List EV} (h : ASF σ τ lg) (p : PBF σ τ) (q : PBF τ υ) (t2 : TBm τ υ) (e : υ.1 34 = τ.1 34 + 1) (o : τ.1 25 = 3 → τ.1 30 < 6 → τ.1 34 < 180 → OKI υ 1 (PXx τ)) (kk : υ.2.1 3 (PXx τ) = 0 ∨ υ.2.1 3 (PXx τ) = 6 ∨ υ.2.1 3 (PXx τ) = 7 ∨ υ.2.1 3 (PXx τ) = 12) (h0 : 0 ≤ σ.1 30 ∧ 0 ≤ σ.1 34) : ASF σ υ lg := fun a b c d k x y => by
  have p6 := p.2.2.2.2.2.1
  have e25 : τ.1 25 = σ.1 25 := p.2.2.2.2.2.2.1
  have e30 : τ.1 30 = σ.1 30 := p.2.2.2.2.2.2.2
  have H := h a b (by omega) d
  have ie : ∀ k, σ.1 34 ≤ k → k < τ.1 34 → IEQ τ (220 * σ.1 30 + k) υ (220 * σ.1 30 + k) := fun k x y => q.1 _ (by omega) (by omega)
  have xe : PXx τ = 220 * σ.1 30 + τ.1 34 := by unfold PXx; rw [if_pos (by omega), e30]
  have o2 := o (by omega) (by omega) (by omega)
  rw [xe] at o2 kk
  by_cases z : k < τ.1 34
  · have A := H k x z
    have I := ie k x z
    refine ⟨I.oki t2.2.1 A.1, ?_, fun w => ?_⟩
    · simp only [iK]; rw [I.1]; exact A.2.1
    · simp only [iK] at w; rw [I.1] at w
      have B := A.2.2 w
      refine ⟨by simp only [iO]; rw [I.2.2.1]; exact B.1, fun i u v => ?_⟩
      simp only [iK]; rw [(ie i u (by omega)).1]; exact B.2 i u v
  · rw [show k = τ.1 34 by omega]
    refine ⟨o2, ?_, fun w => ?_⟩
    · simp only [iK]; omega
    · simp only [iK] at w; omega
theorem ASF.call {σ τ υ : MS} {lg : List EV} (h : AC σ τ) (p : PBF σ τ) (q : PBF τ υ) (t2 : TBm τ υ) (h33 : σ.1 33 ≤ τ.1 33) (e : υ.1 34 = τ.1 34 + 1) (kk : υ.2.1 3 (PXx τ) = 10) (o : σ.1 25 = 3 → σ.1 30 < 6 → τ.1 34 < 180 → (∀ e ∈ lg, E3 σ e) → OKI υ 1 (PXx τ) ∧ 0 ≤ υ.2.1 5 (PXx τ) ∧ υ.2.1 5 (PXx τ) < σ.1 43) (h0 : 0 ≤ σ.1 30 ∧ 0 ≤ σ.1 34) : ASF σ υ lg := fun a b c d k x y => by
  have p6 := p.2.2.2.2.2.1
  have e25 : τ.1 25 = σ.1 25 := p.2.2.2.2.2.2.1
  have e30 : τ.1 30 = σ.1 30 := p.2.2.2.2.2.2.2
  have H := (SGF.ac (lg := lg) h p h33 a b (by omega) d).1
  have hk : ∀ k, σ.1 34 ≤ k → k < τ.1 34 → 1 ≤ τ.2.1 3 (220 * σ.1 30 + k) ∧ τ.2.1 3 (220 * σ.1 30 + k) ≤ 5 := fun k x y => (h a b k x y (by omega)).1
  have ie : ∀ k, σ.1 34 ≤ k → k < τ.1 34 → IEQ τ (220 * σ.1 30 + k) υ (220 * σ.1 30 + k) := fun k x y => q.1 _ (by omega) (by omega)
  have xe : PXx τ = 220 * σ.1 30 + τ.1 34 := by unfold PXx; rw [if_pos (by omega), e30]
  have o2 := o a b (by omega) d
  rw [xe] at o2 kk
  by_cases z : k < τ.1 34
  · have I := ie k x z
    have A := hk k x z
    refine ⟨I.oki t2.2.1 (H k x z), ?_, fun w => ?_⟩
    · simp only [iK]; rw [I.1]; omega
    · simp only [iK] at w; rw [I.1] at w; omega
  · rw [show k = τ.1 34 by omega]
    refine ⟨o2.1, ?_, fun w => ⟨o2.2, fun i u v => ?_⟩⟩
    · simp only [iK]; omega
    · simp only [iK]; rw [(ie i u v).1]
      have := hk i u v
      omega
/-- a LINE was put -/
def LIT (ρ σ : MS) : Prop := (σ.2.1 3 (PXx ρ) = 11 ∧ σ.2.1 5 (PXx ρ) = 0) ∧ OKI σ 1 (PXx ρ)
theorem FS.of {ρ σ ω : MS} (h : LIT ρ σ) (e : σ.1 34 = ρ.1 34 + 1) (p : PBF ρ σ) (q : PBF σ ω) (h0 : 0 ≤ ρ.1 30 ∧ 0 ≤ ρ.1 34) : FS ρ ω := fun a b c => by
  have m2 := q.2.2.2.2.2.1
  have e30 : σ.1 30 = ρ.1 30 := p.2.2.2.2.2.2.2
  have x : PXx ρ = 220 * ρ.1 30 + ρ.1 34 := by unfold PXx; rw [if_pos (by omega)]
  have Z := h.1.1
  rw [x] at Z
  exact Or.inr (Or.inl ⟨(q.1 _ (by omega) (by omega)).1.trans Z, by omega⟩)
theorem SGF.line {σ τ ω : MS} {lg : List EV} (h1 : τ.1 34 = σ.1 34 + 1) (z : LIT σ τ) (p1 : PBF σ τ) (p2 : PBF τ ω) (t1 : TBm σ τ) (t2 : TBm τ ω) (h33 : σ.1 33 ≤ ω.1 33) (as : ASF τ ω lg) (h0 : 0 ≤ σ.1 30 ∧ 0 ≤ σ.1 34) : SGF σ ω lg := fun a b c d => by
  have m2 := p2.2.2.2.2.2.1
  have e25 : τ.1 25 = σ.1 25 := p1.2.2.2.2.2.2.1
  have e30 : τ.1 30 = σ.1 30 := p1.2.2.2.2.2.2.2
  have x : PXx σ = 220 * σ.1 30 + σ.1 34 := by unfold PXx; rw [if_pos (by omega)]
  obtain ⟨k1, k2⟩ := z
  rw [x] at k1 k2
  have k3 : IEQ τ (220 * σ.1 30 + σ.1 34) ω (220 * σ.1 30 + σ.1 34) := p2.1 _ (by omega) (by omega)
  have A := as (by omega) (by omega) c (fun e w => (d e w).tb t1)
  rw [e30, t1.1] at A
  refine ⟨fun k x y => ?_, WS.line h33 (by omega) ⟨k3.1.trans k1.1, k3.2.2.1.trans k1.2⟩ (fun k x y => ?_)⟩
  · by_cases e : k = σ.1 34
    · rw [e]; exact k3.oki t2.2.1 k2
    · exact (A k (by omega) y).1
  · have q := A k (by omega) y
    exact ⟨q.2.1, fun w => ⟨(q.2.2 w).1, fun i u v => (q.2.2 w).2 i (by omega) v⟩⟩
/-- the statement's beginning: its line is counted, j items are put, no token is used up -/
def LNP (j : Int) (ρ σ : MS) : Prop := RDY ρ ∧ NN ρ ∧ Fr [26, 27, 31, 34] [3, 4, 5, 6, 7, 8, 37] [] ρ σ ∧ PBF ρ σ ∧ (σ.1 34 = ρ.1 34 + j ∧ σ.1 31 = ρ.1 31 + 1) ∧ ρ.1 22 ≠ 0 ∧ srt σ = srt (lnP (ρ.1 19) ρ)
theorem LNP.tok {j : Int} {ρ σ : MS} (h : LNP j ρ σ) : TOK σ := by
  obtain ⟨h1, -, f, -⟩ := h
  unfold TOK
  rw [f.1 19 (by decide), f.1 20 (by decide), f.1 21 (by decide), f.1 22 (by decide), f.1 23 (by decide)]
  exact h1.1
theorem LNP.h0 {j : Int} {ρ σ : MS} (h : LNP j ρ σ) : 0 ≤ ρ.1 30 ∧ 0 ≤ ρ.1 34 := ⟨h.1.2.2.1.1, h.1.2.2.2.1.1⟩
theorem LNP.tb {j : Int} {ρ σ : MS} (h : LNP j ρ σ) : TBm ρ σ := TBm.of h.2.2.1 (by decide) (by decide) (by decide) (by decide)
theorem TS.line {j : Int} {ρ σ τ : MS} {new : List Nat} (l : LNP j ρ σ) (hj : 0 ≤ j ∧ j ≤ 1) (f : Fr [19, 20, 22, 23, 26, 27] [35] [24, 38] σ τ) (pb : PBF σ τ) (tok : TOK τ) (p : σ.1 20 ≤ τ.1 19) (g : ∀ {c : Int}, GOS [20] ρ (qq c) new τ (qq c) []) : TS 20 (2 - j) ρ new τ qq [] := by
  have tb := l.tb
  obtain ⟨l1, l2, l3, l4, l5, l6⟩ := l
  have hs := l1.1.2.1 l6.1
  have pc : PBC (2 - j) ρ τ := by
    unfold PBC
    rw [f.1 34 (by decide), f.1 32 (by decide), f.1 31 (by decide), f.1 33 (by decide), l3.1 32 (by decide), l3.1 33 (by decide)]
    have e20 := l3.1 20 (by decide)
    omega
  have pp := l4.trans pb
  exact ⟨pp, pc, RDY.of l1 ⟨pp.2.2.2.2.2.2.1, pp.2.2.2.2.2.2.2⟩ tok pc (by omega), tb.trans (TBm.of f (by decide) (by decide) (by decide) (by decide)), P2F.nil, fun _ => g⟩
def BLQ (k0 : Nat) (n : Int) (σ τ : MS) : Prop := ∃ lg, TS k0 n σ [] τ qq lg ∧ SGF σ τ lg ∧ FS σ τ ∧ τ.1 28 = σ.1 28 ∧ τ.1 29 = σ.1 29
section TSX
variable {k0 k : Nat} {n m : Int} {σ τ υ : MS} {rest kk : List Nat} {q : Int → QR} {lg l2 : List EV}
theorem TS.le (t : TS k0 n σ kk τ q lg) (h : m ≤ n) : TS k0 m σ kk τ q lg := ⟨t.1, t.2.1.le h, t.2.2⟩
theorem TS.sub (t : TS k0 n σ (k :: rest) τ qq lg) (u : TS k m τ [] υ qq l2) : TS k0 (n + m) σ rest υ qq (lg ++ l2) := t.go u.1 u.2.1 u.2.2.1 u.2.2.2.1 u.2.2.2.2.1 (u.2.2.2.2.2 _)
theorem TS.h0 (t : TS k0 n σ kk τ q lg) (hrd : RDY σ) : 0 ≤ σ.1 30 ∧ 0 ≤ σ.1 34 := ⟨hrd.2.2.1.1, hrd.2.2.2.1.1⟩
theorem TS.h1 (t : TS k0 n σ kk τ q lg) : 0 ≤ τ.1 30 ∧ 0 ≤ τ.1 34 := ⟨t.2.2.1.2.2.1.1, t.2.2.1.2.2.2.1.1⟩
theorem TS.h33 (t : TS k0 n σ kk τ q lg) : σ.1 33 ≤ τ.1 33 := t.2.1.2.2.2.2.2.2.1
/-- back to the name that was looked behind -/
theorem TS.back {new : List Nat} {q2 : Int → QR} (t : TS k0 n σ (k :: rest) τ q lg) (f : Fr [19, 20, 22, 23] [] [24] τ υ) (e : υ.1 19 = τ.1 19 ∧ υ.1 20 = τ.1 20 ∧ υ.1 22 = 2) (h22 : τ.1 22 ≠ 0) (h23 : -1 ≤ υ.1 23 ∧ υ.1 23 ≤ 9999999) (g : ∀ {c : Int}, GOS [k] τ (q c) new υ (q2 c) []) : TS k0 n σ (new ++ rest) υ q2 lg := by
  have pb : PBF τ υ := PBF.nop t.nn f (by decide) (by decide) (by decide)
  have tk := t.2.2.1.1
  have pc : PBC 0 τ υ := by
    unfold PBC
    rw [f.1 34 (by decide), f.1 32 (by decide), f.1 31 (by decide), f.1 33 (by decide), e.1]
    omega
  have hr : TOK υ := by
    unfold TOK at tk ⊢
    rw [e.1, e.2.1, e.2.2, f.1 21 (by decide)]
    omega
  have x := t.go0 pb pc (RDY.of t.2.2.1 ⟨pb.2.2.2.2.2.2.1, pb.2.2.2.2.2.2.2⟩ hr pc (by decide)) (TBm.of f (by decide) (by decide) (by decide) (by decide)) g
  rw [Int.add_zero] at x
  exact x
end TSX
theorem WD.bk {ss ks js : List Nat} {σ τ : MS} {w : Int64} (f : Fr ss ks js σ τ) (h1 : 22 ∉ ss) (h2 : 24 ∉ js) : WD τ w ↔ WD σ w := by unfold WD; rw [f.1 22 h1, f.2.2 24 h2]
theorem NMW.bk {ss ks js : List Nat} {σ τ : MS} (f : Fr ss ks js σ τ) (h1 : 22 ∉ ss) (h2 : 24 ∉ js) : NMW τ ↔ NMW σ := by unfold NMW; rw [f.1 22 h1, f.2.2 24 h2]
/-- an item was put, and perhaps given arguments -/
theorem PBF.it {ss ks js : List Nat} {σ υ : MS} {v : Int} (hn : NN σ) (f : Fr ss ks js σ υ) (hs : ∀ k ∈ [25, 26, 30], k ∉ ss) (hk : 35 ∉ ks) (hj : 38 ∉ js) (h34 : υ.1 34 = σ.1 34 + 1) (e : v = PXx σ) (o : OFF v σ υ) : PBF σ υ := PBF.put hn f hs hk hj h34 (by rw [← e]; exact o)
theorem ASF.pre {σ τ υ : MS} {lg : List EV} (h : ASF τ υ lg) (p : PBF σ τ) (t : TBm σ τ) (e : τ.1 34 = σ.1 34) : ASF σ υ lg := fun a b c d => by
  have e25 : τ.1 25 = σ.1 25 := p.2.2.2.2.2.2.1
  have e30 : τ.1 30 = σ.1 30 := p.2.2.2.2.2.2.2
  have H := h (by omega) (by omega) c (fun e w => (d e w).tb t)
  rw [e30, e, t.1] at H
  exact H
end
section
/-- arguments of the call under way -/
def CAG (m : Int) (σ : MS) : Prop := ∀ i, 0 ≤ i → i < m → i < 4 → (σ.2.1 41 i = 1 ∨ σ.2.1 41 i = 2) ∧ (σ.2.1 41 i = 2 → 0 ≤ σ.2.1 42 i ∧ σ.2.1 42 i < 12 + σ.1 34)
theorem CAG.nil {σ : MS} : CAG 0 σ := fun i a b _ => by omega
theorem CAG.mv {ss ks js : List Nat} {m : Int} {σ τ : MS} (h : CAG m σ) (f : Fr ss ks js σ τ) (h1 : 41 ∉ ks) (h2 : 42 ∉ ks) (h34 : σ.1 34 ≤ τ.1 34) : CAG m τ := fun i a b c => by
  have q := h i a b c
  rw [f.2.1 41 h1, f.2.1 42 h2]
  refine ⟨q.1, fun z => ?_⟩
  have := q.2 z
  omega
theorem CAG.put {m : Int} {σ : MS} (h : CAG m σ) (g : GTm σ) : CAG (m + 1) (sA 42 m (σ.1 40) (sA 41 m (σ.1 39) σ)) := fun i a b c => by
  by_cases e : i = m
  · rw [e, show (sA 42 m (σ.1 40) (sA 41 m (σ.1 39) σ)).2.1 41 m = σ.1 39 from ra_o (by decide) ra_eq, show (sA 42 m (σ.1 40) (sA 41 m (σ.1 39) σ)).2.1 42 m = σ.1 40 from ra_eq]
    exact g
  · rw [show (sA 42 m (σ.1 40) (sA 41 m (σ.1 39) σ)).2.1 41 i = σ.2.1 41 i from ra_o (by decide) (ra_ne e rfl), show (sA 42 m (σ.1 40) (sA 41 m (σ.1 39) σ)).2.1 42 i = σ.2.1 42 i from ra_ne e (ra_o (by decide) rfl)]
    exact h i a (by omega) c
theorem CAG.more {m : Int} {σ : MS} (h : CAG m σ) (g : 4 ≤ m) : CAG (m + 1) σ := fun i a b c => h i a (by omega) c
def CRG (σ τ : MS) (x i : Int) : Prop := ∀ j, 0 ≤ j → j < 4 → (j < i → τ.2.1 7 (4 * x + j) = σ.2.1 41 j ∧ τ.2.1 8 (4 * x + j) = σ.2.1 42 j) ∧ (i ≤ j → τ.2.1 7 (4 * x + j) = σ.2.1 7 (4 * x + j))
theorem CRG.start {σ : MS} {x : Int} : CRG σ σ x 0 := fun j a b => ⟨fun q => by omega, fun _ => rfl⟩
theorem CRG.step {σ τ : MS} {x i k v : Int} (h : CRG σ τ x i) (h0 : 0 ≤ i) (e1 : k = σ.2.1 41 i) (e2 : v = σ.2.1 42 i) : CRG σ (fArg x i k v τ) x (i + 1) := fun j a b => by
  by_cases z : j = i
  · rw [z, fArg_at.1, fArg_at.2]
    exact ⟨fun _ => ⟨e1, e2⟩, fun q => by omega⟩
  · rw [(fArg_ne z).1, (fArg_ne z).2]
    have q := h j a b
    exact ⟨fun w => q.1 (by omega), fun w => q.2 (by omega)⟩
theorem oki_call {σ τ : MS} {x k q m i : Int} (h : ITz σ x 10 k q) (hk : 0 ≤ k ∧ k < 12) (hq : 0 ≤ q ∧ q < 6) (f : Fr [] [7, 8] [] σ τ) (ha : CRG σ τ x i) (hi : i ≤ m ∧ i ≤ 4) (hc : CAG m σ) (h34 : σ.1 34 ≤ 180) (hm : σ.2.1 11 q = m) : OKI τ 1 x := by
  have e3 : τ.2.1 3 x = 10 := by rw [f.2.1 3 (by decide)]; exact h.1
  have e4 : τ.2.1 4 x = k := by rw [f.2.1 4 (by decide)]; exact h.2.1
  have e5 : τ.2.1 5 x = q := by rw [f.2.1 5 (by decide)]; exact h.2.2.1
  have en : nArgs τ x = m := by
    unfold nArgs
    rw [if_pos e3, e5, f.2.1 11 (by decide)]
    exact hm
  refine ⟨by omega, by omega, by omega, by omega, by omega, by omega, by omega, fun j j0 j4 => ?_, by omega⟩
  rw [en]
  by_cases z : j < i
  · obtain ⟨a1, a2⟩ := (ha j j0 j4).1 z
    have g := hc j j0 (by omega) j4
    rw [a1, a2]
    refine ⟨by omega, fun w => ?_⟩
    have := g.2 w
    exact ⟨by omega, by omega⟩
  · rw [(ha j j0 j4).2 (by omega), h.2.2.2.2 j j0 j4]
    exact ⟨by omega, fun w => by omega⟩
theorem TS.putc {k0 : Nat} {n m p : Int} {w : Int64} {σ τ υ : MS} {rest : List Nat} {lg : List EV} (t : TS k0 n σ (38 :: rest) τ (fun c => (w, m, p, 0, c)) lg) (f : Fr [26, 27, 34] [3, 4, 5, 6, 7, 8] [] τ υ) (pb : PBF τ υ) (e : υ.1 34 = τ.1 34 + 2) (hn : 2 ≤ n) (hrd : RDY σ) (p2 : τ.1 25 = 2 → υ.1 26 = 0 → E2 τ (1, m, w)) (hs : srt υ = srt (clP w p m τ)) : TS k0 (n - 2) σ rest υ qq (lg ++ [(1, m, w)]) := by
  have pc : PBC (-2) τ υ := by
    unfold PBC
    rw [f.1 19 (by decide), f.1 31 (by decide), f.1 32 (by decide), f.1 33 (by decide), e]
    omega
  have pc2 : PBC (n - 2) σ υ := t.2.1.trans pc
  have pp := t.1.trans pb
  have hr : RDY υ := RDY.of hrd ⟨pp.2.2.2.2.2.2.1, pp.2.2.2.2.2.2.2⟩ (by
    unfold TOK
    rw [f.1 19 (by decide), f.1 20 (by decide), f.1 21 (by decide), f.1 22 (by decide), f.1 23 (by decide)]
    exact t.2.2.1.1) pc2 (by omega)
  have hp : P2F τ υ [(1, m, w)] := fun a b e he => by
    rw [List.mem_singleton.mp he]
    exact p2 a b
  refine t.go pb pc hr (TBm.of f (by decide) (by decide) (by decide) (by decide)) hp (g38 ?_ ?_ (sv_fr f (by decide) (by decide)) (EFF.call hs))
  · unfold tks
    rw [f.1 19 (by decide), f.1 20 (by decide), f.1 22 (by decide), f.1 23 (by decide), f.2.2 24 (by decide)]
  · unfold xs
    rw [f.1 28 (by decide), f.1 29 (by decide), e]
theorem RBY.rfd {σ : MS} {w : Int64} {v : Int} (h : RBY σ w v) (h0 : 0 ≤ v) (h1 : v < σ.1 43) : RFD σ w v := ⟨h0, h1, h.1 h0⟩
theorem RFD.rby {σ : MS} {w : Int64} {v : Int} (h : RFD σ w v) : RBY σ w v := ⟨fun _ => h.2.2, fun e => absurd h.1 (by omega)⟩
theorem clP_none {σ : MS} {w : Int64} {p m v : Int} (h2 : σ.1 25 = 2) (r : RBY σ w v) (hv : v = -1) : clP w p m σ = ntP 3 p σ := by
  unfold clP
  rw [ifP_t h2, ifP_f (fun z => by obtain ⟨q, z⟩ := z; exact r.2 hv q z.1 z.2.1 z.2.2.1)]
theorem clP_bad {σ : MS} {w : Int64} {p m v : Int} (h2 : σ.1 25 = 2) (r : RBY σ w v) (hv : 0 ≤ v) (h43 : v < σ.1 43) (hm : m ≠ σ.2.1 45 v) : clP w p m σ = ntP 4 p σ := by
  unfold clP
  rw [ifP_t h2, ifP_t ⟨v, r.rfd hv h43⟩, ifP_t ⟨v, r.rfd hv h43, hm⟩]
theorem clP_ok {σ : MS} {w : Int64} {p m v : Int} (r : RBY σ w v) (hv : 0 ≤ v) (h43 : v < σ.1 43) (hm : m = σ.2.1 45 v) : clP w p m σ = σ := by
  unfold clP
  by_cases h2 : σ.1 25 = 2
  · rw [ifP_t h2, ifP_t ⟨v, r.rfd hv h43⟩, ifP_f (fun z => by
      obtain ⟨q, z1, z2⟩ := z
      have e := z1.rby.one r z1.1 hv
      rw [e] at z2
      exact z2 hm)]
  · rw [ifP_f h2]
theorem clP_off {σ : MS} {w : Int64} {p m : Int} (h2 : ¬ σ.1 25 = 2) : clP w p m σ = σ := by unfold clP; rw [ifP_f h2]
/-- the call's routine, where its event is good -/
theorem E3.rby {σ : MS} {w : Int64} {m q : Int} (h : E3 σ (1, m, w)) (r : RBY σ w q) (hq : -1 ≤ q ∧ q < σ.1 43) : (0 ≤ q ∧ q < 6) ∧ σ.2.1 11 q = m := by
  obtain ⟨v, a, b, c, d⟩ := h.2 rfl
  by_cases z : q = -1
  · exact absurd (c.1 a.1).1 (r.2 z v a.1 a.2)
  · have e := r.one c (by omega) a.1
    rw [e]
    exact ⟨⟨a.1, b⟩, d⟩
end
section
theorem fl12_76 : Cond.fieldLink RX12 76 (TX12 41).1 (TX12 41).2.1 (TX12 41).2.2.1 ∈ pWW := pw7 (List.mem_of_getElem? (i := 48) rfl) rfl
theorem fl12_79 : Cond.fieldLink RX12 79 (TX12 42).1 (TX12 42).2.1 (TX12 42).2.2.1 ∈ pWW := pw7 (List.mem_of_getElem? (i := 49) rfl) rfl
theorem dX12_call_23 : decode cX12_call 23 = .ok (.iload 6, 2) := by decide +kernel
theorem dX12_call_25 : decode cX12_call 25 = .ok (.ifCond .eq 63, 3) := by decide +kernel
theorem dX12_call_28 : decode cX12_call 28 = .ok (.aload_n 0, 1) := by decide +kernel
theorem dX12_call_29 : decode cX12_call 29 = .ok (.invokevirtual 327, 3) := by decide +kernel
theorem dX12_call_32 : decode cX12_call 32 = .ok (.ifCond .ne 5, 3) := by decide +kernel
theorem dX12_call_37 : decode cX12_call 37 = .ok (.iload 5, 2) := by decide +kernel
theorem dX12_call_39 : decode cX12_call 39 = .ok (.iconst 4, 1) := by decide +kernel
theorem dX12_call_40 : decode cX12_call 40 = .ok (.if_icmp .ge 25, 3) := by decide +kernel
theorem dX12_call_65 : decode cX12_call 65 = .ok (.iinc 5 1, 3) := by decide +kernel
theorem dX12_call_68 : decode cX12_call 68 = .ok (.aload_n 0, 1) := by decide +kernel
theorem dX12_call_69 : decode cX12_call 69 = .ok (.bipush 44, 2) := by decide +kernel
theorem dX12_call_71 : decode cX12_call 71 = .ok (.invokevirtual 258, 3) := by decide +kernel
theorem dX12_call_74 : decode cX12_call 74 = .ok (.istore 6, 2) := by decide +kernel
theorem dX12_call_76 : decode cX12_call 76 = .ok (.iload 6, 2) := by decide +kernel
theorem dX12_call_78 : decode cX12_call 78 = .ok (.ifCond .eq (-55), 3) := by decide +kernel
theorem dX12_call_81 : decode cX12_call 81 = .ok (.aload_n 0, 1) := by decide +kernel
theorem dX12_call_82 : decode cX12_call 82 = .ok (.invokevirtual 265, 3) := by decide +kernel
theorem dX12_call_85 : decode cX12_call 85 = .ok (.goto (-62), 3) := by decide +kernel
theorem dX12_call_43 : decode cX12_call 43 = .ok (.aload_n 0, 1) := by decide +kernel
theorem dX12_call_44 : decode cX12_call 44 = .ok (.getfield 76, 3) := by decide +kernel
theorem dX12_call_47 : decode cX12_call 47 = .ok (.iload 5, 2) := by decide +kernel
theorem dX12_call_49 : decode cX12_call 49 = .ok (.aload_n 0, 1) := by decide +kernel
theorem dX12_call_50 : decode cX12_call 50 = .ok (.getfield 285, 3) := by decide +kernel
theorem dX12_call_53 : decode cX12_call 53 = .ok (.iastore, 1) := by decide +kernel
theorem dX12_call_54 : decode cX12_call 54 = .ok (.aload_n 0, 1) := by decide +kernel
theorem dX12_call_55 : decode cX12_call 55 = .ok (.getfield 79, 3) := by decide +kernel
theorem dX12_call_58 : decode cX12_call 58 = .ok (.iload 5, 2) := by decide +kernel
theorem dX12_call_60 : decode cX12_call 60 = .ok (.aload_n 0, 1) := by decide +kernel
theorem dX12_call_61 : decode cX12_call 61 = .ok (.getfield 288, 3) := by decide +kernel
theorem dX12_call_64 : decode cX12_call 64 = .ok (.iastore, 1) := by decide +kernel
theorem dX12_call_35 : decode cX12_call 35 = .ok (.iconst 0, 1) := by decide +kernel
theorem dX12_call_36 : decode cX12_call 36 = .ok (.ireturn, 1) := by decide +kernel
set_option maxHeartbeats 4000000 in
set_option maxRecDepth 20000 in
theorem l_call (d : Nat) {b : Nat} {σ0 : MS} {kn : Int} {w : Int64} {p : Int} {ρ : MS} {post : Option Value → MS → Prop} (hR0 : RG σ0) (h30 : 0 ≤ σ0.1 30) (htk0 : 0 ≤ σ0.1 19) (hx_88 : ∀ (m : Int) (mo : Int) (σ : MS) , (Fr [19, 20, 22, 23, 26, 27, 28, 32, 34, 39, 40] [3, 4, 5, 6, 7, 8, 35, 41, 42] [24, 38] σ0 σ) → (RG σ) → (0 ≤ m ∧ m ≤ 1200) → (TS 20 7 ρ [38, 141, 159] σ (fun c => (w, m, p, 0, c)) []) → (PBF σ0 σ) → (AC σ0 σ) → (CAG m σ) → (σ.1 28 = 0) → Tm (d + 41) m_X12_call 88 b σ [(6, .int (iI mo)), (5, .int (iI m)), (4, .int (iI p)), (2, .long (w)), (1, .int (iI kn)), (0, .ref b)] [] post) (hr0 : ∀ (τ : MS), Fr [19, 20, 22, 23, 26, 27, 28, 32, 34, 39, 40] [3, 4, 5, 6, 7, 8, 35, 41, 42] [24, 38] σ0 τ → RG τ → PBF ρ τ → (∀ c : Int, GOF [20] ρ (qq c) τ) → τ.1 28 = 0 → post (some (.int (iI 0))) τ) : ∀ (n : Nat) (m : Int) (mo : Int) (σ : MS) , (Fr [19, 20, 22, 23, 26, 27, 28, 32, 34, 39, 40] [3, 4, 5, 6, 7, 8, 35, 41, 42] [24, 38] σ0 σ) → (RG σ) → ((0 ≤ m ∧ m ≤ σ.1 19 ∧ σ.1 19 ≤ 1200) ∧ (mo = 0 ∨ mo = 1)) → ((mo = 1 → TS 20 7 ρ [2, 27, 159] σ (fun c => (w, m, p, 0, c)) []) ∧ (mo = 0 → TS 20 7 ρ [38, 141, 159] σ (fun c => (w, m, p, 0, c)) [])) → (PBF σ0 σ) → (AC σ0 σ) → (CAG m σ) → (σ.1 28 = 0) → (1300 - σ.1 19).toNat = n → Tm (d + 41) m_X12_call 23 b σ [(6, .int (iI mo)), (5, .int (iI m)), (4, .int (iI p)), (2, .long (w)), (1, .int (iI kn)), (0, .ref b)] [] post := by
  intro n
  induction n using Nat.strongRecOn with
  | _ n ih =>
    intro m mo σ hF hR h0 htq hpb hac hcg h28 hm
    refine tm_iload dX12_call_23 0 rfl ?_
    refine tm_if_eq (tgt := 88) dX12_call_25 (by decide) ⟨by omega, by omega⟩ (fun h1 => ?_) (fun h1 => ?_)
    · exact tm_sub [0, 1, 2, 3, 4, 5] rfl (hx_88 (m) (mo) σ (Fr.rfl.trans (Fr.sub hF (by decide) (by decide) (by decide))) hR (by omega) (htq.2 (by omega)) hpb hac hcg h28)
    · have tq := htq.1 (by omega)
      have tkq := tq.2.2.1.1.1
      refine tm_aload_n dX12_call_28 rfl 5 rfl ?_
      refine tm_callV (M := m_X12_call) (pc := 29) (ix := 327) (M' := m_X12_expression) (As := []) (rest := []) dX12_call_29 ok_X12_expression im_X12_expression se_X12_expression ml12_327 np_X12_expression rfl rfl (Nat.le_of_ble_eq_true rfl) (Nat.le_of_ble_eq_true rfl) rfl (c_exp8 (d) (σ := σ)  hR tq.2.2.1 tq.nn h28) (fun r2 σ3 hp => ?_)
      obtain ⟨v4, rfl, f5, f6, f7, f8, f9, f10, f11⟩ := hp
      show Tm _ _ 32 b σ3 [(6, .int (iI mo)), (5, .int (iI m)), (4, .int (iI p)), (2, .long (w)), (1, .int (iI kn)), (0, .ref b)] [.int (iI v4)] _
      have xp0 := f5
      have xp1 := f6
      have xp2 := f7
      have xp3 := f8
      have xp4 := f9
      have xp5 := f10
      have xp6 := f11
      refine tm_if_ne (tgt := 37) dX12_call_32 (by decide) ⟨by omega, by omega⟩ (fun h12 => ?_) (fun h12 => ?_)
      · have ts1 := tq.exp xp1 xp3 (xp4 (by omega)) (xp5.1 (by omega))
        have ex4 := xp4 (by omega)
        have gt1 := ex4.2.2.1
        have pl1 : σ.1 19 < σ3.1 19 := by have z := ex4.2.1; unfold PBC at z; have z2 := xp3.2.2.2.2.2.1; omega
        have tk1 := ts1.2.2.1.1.1
        have pq1 := hpb.trans xp3
        have ac1 := hac.trans hpb ex4.2.2.2.1 xp3 h30
        have cg1 := hcg.mv xp1 (by decide) (by decide) xp3.2.2.2.2.2.1
        have e281 : σ3.1 28 = 0 := xp6.trans h28
        refine tm_iload dX12_call_37 1 rfl ?_
        refine tm_iconst dX12_call_39 ?_
        refine tm_icmp_ge (tgt := 65) dX12_call_40 (by decide) ⟨by omega, by omega⟩ ⟨by decide, by decide⟩ (fun h13 => ?_) (fun h13 => ?_)
        · have ts2 := ts1
          have pq2 := pq1
          have ac2 := ac1
          have cg2 := cg1.more (by omega)
          have e282 := e281
          have e192 : σ3.1 19 = σ3.1 19 := rfl
          refine tm_iinc (q0 := 1) (L' := [(5, .int (iI (m + 1))), (6, .int (iI mo)), (4, .int (iI p)), (2, .long (w)), (1, .int (iI kn)), (0, .ref b)]) dX12_call_65 rfl (by decide) rfl ?_
          refine tm_aload_n dX12_call_68 rfl 5 rfl ?_
          refine tm_bipush dX12_call_69 (by decide) ?_
          refine tm_callV (M := m_X12_call) (pc := 71) (ix := 258) (M' := m_X12_isSign) (As := [.int (iI 44)]) (rest := []) dX12_call_71 ok_X12_isSign im_X12_isSign se_X12_isSign ml12_258 np_X12_isSign rfl rfl (Nat.le_of_ble_eq_true rfl) (Nat.le_of_ble_eq_true rfl) rfl (c2_X12_isSign (d + 39) (σ := σ3) (c := 44) f7 (by omega)) (fun r14 σ15 hp => ?_)
          obtain ⟨v16, rfl, rfl, f17, f18, f19⟩ := hp
          show Tm _ _ 74 b σ3 [(5, .int (iI (m + 1))), (6, .int (iI mo)), (4, .int (iI p)), (2, .long (w)), (1, .int (iI kn)), (0, .ref b)] [.int (iI v16)] _
          have i44 := f18
          have n44_ := f19
          refine tm_istore (L' := [(6, .int (iI v16)), (5, .int (iI (m + 1))), (4, .int (iI p)), (2, .long (w)), (1, .int (iI kn)), (0, .ref b)]) dX12_call_74 (by decide) rfl ?_
          refine tm_iload dX12_call_76 0 rfl ?_
          refine tm_if_eq (tgt := 23) dX12_call_78 (by decide) ⟨by omega, by omega⟩ (fun h20 => ?_) (fun h20 => ?_)
          · exact tm_sub [0, 1, 2, 3, 4, 5] rfl (ih _ (by omega) (m + 1) (v16) σ3 ((Fr.rfl.trans (Fr.sub hF (by decide) (by decide) (by decide))).trans (Fr.sub f6 (by decide) (by decide) (by decide))) f7 (by omega) (⟨fun q => absurd q (by omega), fun _ => (ts2.nxt (g27n (n44_ (by omega)))).le (by decide)⟩) pq2 ac2 cg2 e282 rfl)
          · refine tm_aload_n dX12_call_81 rfl 5 rfl ?_
            refine tm_callV (M := m_X12_call) (pc := 82) (ix := 265) (M' := m_X12_advance) (As := []) (rest := []) dX12_call_82 ok_X12_advance im_X12_advance se_X12_advance ml12_265 np_X12_advance rfl rfl (Nat.le_of_ble_eq_true rfl) (Nat.le_of_ble_eq_true rfl) rfl (c_X12_advance (d + 35) (σ := σ3)  f7 (by have z := ts2.2.2.1.1.1; omega)) (fun r21 σ22 hp => ?_)
            obtain ⟨rfl, f24, f25, f26, f27, f28⟩ := hp
            show Tm _ _ 85 b σ22 [(6, .int (iI v16)), (5, .int (iI (m + 1))), (4, .int (iI p)), (2, .long (w)), (1, .int (iI kn)), (0, .ref b)] [] _
            refine tm_goto (tgt := 23) dX12_call_85 (by decide) ?_
            exact tm_sub [0, 1, 2, 3, 4, 5] rfl (ih _ (by have z := f28; have z2 := ts2.2.2.1.1.1; omega) (m + 1) (v16) σ22 (((Fr.rfl.trans (Fr.sub hF (by decide) (by decide) (by decide))).trans (Fr.sub f6 (by decide) (by decide) (by decide))).trans (Fr.sub f25 (by decide) (by decide) (by decide))) f26 (by have z := f28; have z2 := ts2.2.2.1.1.1; have z3 := f27.1; omega) (⟨fun _ => (ts2.adv f25 f27 f28 (by have z := (i44 (by omega)).1; omega) (g27y (i44 (by omega)) f24)).le (by decide), fun q => absurd q (by omega)⟩) (pq2.trans (PBF.nop ts2.nn f25 (by decide) (by decide) (by decide))) (ac2.trans pq2 (AC.nil (f25.1 34 (by decide))) (PBF.nop ts2.nn f25 (by decide) (by decide) (by decide)) h30) (cg2.mv f25 (by decide) (by decide) (by rw [f25.1 34 (by decide)]; omega)) ((f25.1 28 (by decide)).trans e282) rfl)
        · refine tm_aload_n dX12_call_43 rfl 5 rfl ?_
          refine tm_get (k := 41) (v := .ref (b + 1 + 20)) lay_12 dX12_call_44 (by decide) fl12_76 rfl ?_
          refine tm_iload dX12_call_47 1 rfl ?_
          refine tm_aload_n dX12_call_49 rfl 5 rfl ?_
          refine tm_getS (k := 39) (t := σ3.1 39) dX12_call_50 (by decide) fl12_285 rfl (rfl) ?_
          have g29 := RG.s f7 39
          refine tm_iast (z := m) (v := σ3.1 39) dX12_call_53 (show mT[20]? = some (41, 0, 4) from rfl) (by omega) (by omega) (by decide) ?_
          refine tm_aload_n dX12_call_54 rfl 5 rfl ?_
          refine tm_get (k := 42) (v := .ref (b + 1 + 21)) lay_12 dX12_call_55 (by decide) fl12_79 rfl ?_
          refine tm_iload dX12_call_58 1 rfl ?_
          refine tm_aload_n dX12_call_60 rfl 5 rfl ?_
          refine tm_getS (k := 40) (t := σ3.1 40) dX12_call_61 (by decide) fl12_288 rfl (rs_A (rfl)) ?_
          have g30 := RG.s f7 40
          refine tm_iast (z := m) (v := σ3.1 40) dX12_call_64 (show mT[21]? = some (42, 0, 4) from rfl) (by omega) (by omega) (by decide) ?_
          have fk := (show Fr [] [41, 42] [] σ3 (sA 42 (m) (σ3.1 40) (sA 41 (m) (σ3.1 39) σ3)) from ((Fr.rfl.A (by decide)).A (by decide)))
          have pbk : PBF σ3 (sA 42 (m) (σ3.1 40) (sA 41 (m) (σ3.1 39) σ3)) := PBF.nop ts1.nn fk (by decide) (by decide) (by decide)
          have ts2 := ts1.keep fk (by decide) (by decide) (by decide) (by decide) pbk
          have pq2 := pq1.trans pbk
          have ac2 := ac1.trans pq1 (AC.nil (fk.1 34 (by decide))) pbk h30
          have cg2 := cg1.put gt1
          have e282 : (sA 42 (m) (σ3.1 40) (sA 41 (m) (σ3.1 39) σ3)).1 28 = 0 := e281
          have e192 : (sA 42 (m) (σ3.1 40) (sA 41 (m) (σ3.1 39) σ3)).1 19 = σ3.1 19 := rfl
          refine tm_iinc (q0 := 1) (L' := [(5, .int (iI (m + 1))), (6, .int (iI mo)), (4, .int (iI p)), (2, .long (w)), (1, .int (iI kn)), (0, .ref b)]) dX12_call_65 rfl (by decide) rfl ?_
          refine tm_aload_n dX12_call_68 rfl 5 rfl ?_
          refine tm_bipush dX12_call_69 (by decide) ?_
          refine tm_callV (M := m_X12_call) (pc := 71) (ix := 258) (M' := m_X12_isSign) (As := [.int (iI 44)]) (rest := []) dX12_call_71 ok_X12_isSign im_X12_isSign se_X12_isSign ml12_258 np_X12_isSign rfl rfl (Nat.le_of_ble_eq_true rfl) (Nat.le_of_ble_eq_true rfl) rfl (c2_X12_isSign (d + 39) (σ := (sA 42 (m) (σ3.1 40) (sA 41 (m) (σ3.1 39) σ3))) (c := 44) ((f7.A (by omega)).A (by omega)) (by omega)) (fun r31 σ32 hp => ?_)
          obtain ⟨v33, rfl, rfl, f34, f35, f36⟩ := hp
          show Tm _ _ 74 b (sA 42 (m) (σ3.1 40) (sA 41 (m) (σ3.1 39) σ3)) [(5, .int (iI (m + 1))), (6, .int (iI mo)), (4, .int (iI p)), (2, .long (w)), (1, .int (iI kn)), (0, .ref b)] [.int (iI v33)] _
          have i44 := f35
          have n44_ := f36
          refine tm_istore (L' := [(6, .int (iI v33)), (5, .int (iI (m + 1))), (4, .int (iI p)), (2, .long (w)), (1, .int (iI kn)), (0, .ref b)]) dX12_call_74 (by decide) rfl ?_
          refine tm_iload dX12_call_76 0 rfl ?_
          refine tm_if_eq (tgt := 23) dX12_call_78 (by decide) ⟨by omega, by omega⟩ (fun h37 => ?_) (fun h37 => ?_)
          · exact tm_sub [0, 1, 2, 3, 4, 5] rfl (ih _ (by omega) (m + 1) (v33) (sA 42 (m) (σ3.1 40) (sA 41 (m) (σ3.1 39) σ3)) ((((Fr.rfl.trans (Fr.sub hF (by decide) (by decide) (by decide))).trans (Fr.sub f6 (by decide) (by decide) (by decide))).A (by decide)).A (by decide)) ((f7.A (by omega)).A (by omega)) (by omega) (⟨fun q => absurd q (by omega), fun _ => (ts2.nxt (g27n (n44_ (by omega)))).le (by decide)⟩) pq2 ac2 cg2 e282 rfl)
          · refine tm_aload_n dX12_call_81 rfl 5 rfl ?_
            refine tm_callV (M := m_X12_call) (pc := 82) (ix := 265) (M' := m_X12_advance) (As := []) (rest := []) dX12_call_82 ok_X12_advance im_X12_advance se_X12_advance ml12_265 np_X12_advance rfl rfl (Nat.le_of_ble_eq_true rfl) (Nat.le_of_ble_eq_true rfl) rfl (c_X12_advance (d + 35) (σ := (sA 42 (m) (σ3.1 40) (sA 41 (m) (σ3.1 39) σ3)))  ((f7.A (by omega)).A (by omega)) (by have z := ts2.2.2.1.1.1; omega)) (fun r38 σ39 hp => ?_)
            obtain ⟨rfl, f41, f42, f43, f44, f45⟩ := hp
            show Tm _ _ 85 b σ39 [(6, .int (iI v33)), (5, .int (iI (m + 1))), (4, .int (iI p)), (2, .long (w)), (1, .int (iI kn)), (0, .ref b)] [] _
            refine tm_goto (tgt := 23) dX12_call_85 (by decide) ?_
            exact tm_sub [0, 1, 2, 3, 4, 5] rfl (ih _ (by have z := f45; have z2 := ts2.2.2.1.1.1; omega) (m + 1) (v33) σ39 (((((Fr.rfl.trans (Fr.sub hF (by decide) (by decide) (by decide))).trans (Fr.sub f6 (by decide) (by decide) (by decide))).A (by decide)).A (by decide)).trans (Fr.sub f42 (by decide) (by decide) (by decide))) f43 (by have z := f45; have z2 := ts2.2.2.1.1.1; have z3 := f44.1; omega) (⟨fun _ => (ts2.adv f42 f44 f45 (by have z := (i44 (by omega)).1; omega) (g27y (i44 (by omega)) f41)).le (by decide), fun q => absurd q (by omega)⟩) (pq2.trans (PBF.nop ts2.nn f42 (by decide) (by decide) (by decide))) (ac2.trans pq2 (AC.nil (f42.1 34 (by decide))) (PBF.nop ts2.nn f42 (by decide) (by decide) (by decide)) h30) (cg2.mv f42 (by decide) (by decide) (by rw [f42.1 34 (by decide)]; omega)) ((f42.1 28 (by decide)).trans e282) rfl)
      · refine tm_iconst dX12_call_35 ?_
        exact tm_zret (v := 0) rfl (by decide) dX12_call_36 ((fun z => hr0 _ ((Fr.rfl.trans (Fr.sub hF (by decide) (by decide) (by decide))).trans (Fr.sub f6 (by decide) (by decide) (by decide))) f7 z.1 z.2 (xp6.trans h28)) (tq.fail xp3 (xp5.2 (by omega) _)))
theorem dX12_call_180 : decode cX12_call 180 = .ok (.iload 9, 2) := by decide +kernel
theorem dX12_call_182 : decode cX12_call 182 = .ok (.iconst 4, 1) := by decide +kernel
theorem dX12_call_183 : decode cX12_call 183 = .ok (.if_icmp .ge 38, 3) := by decide +kernel
theorem dX12_call_186 : decode cX12_call 186 = .ok (.iload 9, 2) := by decide +kernel
theorem dX12_call_188 : decode cX12_call 188 = .ok (.iload 5, 2) := by decide +kernel
theorem dX12_call_190 : decode cX12_call 190 = .ok (.if_icmp .ge 31, 3) := by decide +kernel
theorem dX12_call_193 : decode cX12_call 193 = .ok (.aload_n 0, 1) := by decide +kernel
theorem dX12_call_194 : decode cX12_call 194 = .ok (.iload 8, 2) := by decide +kernel
theorem dX12_call_196 : decode cX12_call 196 = .ok (.iload 9, 2) := by decide +kernel
theorem dX12_call_198 : decode cX12_call 198 = .ok (.aload_n 0, 1) := by decide +kernel
theorem dX12_call_199 : decode cX12_call 199 = .ok (.getfield 76, 3) := by decide +kernel
theorem dX12_call_202 : decode cX12_call 202 = .ok (.iload 9, 2) := by decide +kernel
theorem dX12_call_204 : decode cX12_call 204 = .ok (.iaload, 1) := by decide +kernel
theorem dX12_call_205 : decode cX12_call 205 = .ok (.aload_n 0, 1) := by decide +kernel
theorem dX12_call_206 : decode cX12_call 206 = .ok (.getfield 79, 3) := by decide +kernel
theorem dX12_call_209 : decode cX12_call 209 = .ok (.iload 9, 2) := by decide +kernel
theorem dX12_call_211 : decode cX12_call 211 = .ok (.iaload, 1) := by decide +kernel
theorem dX12_call_212 : decode cX12_call 212 = .ok (.invokevirtual 298, 3) := by decide +kernel
theorem dX12_call_215 : decode cX12_call 215 = .ok (.iinc 9 1, 3) := by decide +kernel
theorem dX12_call_218 : decode cX12_call 218 = .ok (.goto (-38), 3) := by decide +kernel
set_option maxHeartbeats 4000000 in
set_option maxRecDepth 20000 in
theorem l_callA (d : Nat) {b : Nat} {σ0 : MS} {kn : Int} {m : Int} {x : Int} {post : Option Value → MS → Prop} (hR0 : RG σ0) (hx : 0 ≤ x ∧ x ≤ 2640) (hm : 0 ≤ m ∧ m ≤ 1200) (hx_221 : ∀ (i : Int) (σ : MS) , (Fr [] [7, 8] [] σ0 σ) → (RG σ) → (0 ≤ i ∧ i ≤ 4 ∧ i ≤ m) → (CRG σ0 σ x i) → (OFF x σ0 σ) → Tm (d + 2) m_X12_call 221 b σ [(9, .int (iI i)), (8, .int (iI x)), (5, .int (iI m)), (1, .int (iI kn)), (0, .ref b)] [] post) : ∀ (n : Nat) (i : Int) (σ : MS) , (Fr [] [7, 8] [] σ0 σ) → (RG σ) → (0 ≤ i ∧ i ≤ 4 ∧ i ≤ m) → (CRG σ0 σ x i) → (OFF x σ0 σ) → (4 - i).toNat = n → Tm (d + 2) m_X12_call 180 b σ [(9, .int (iI i)), (8, .int (iI x)), (5, .int (iI m)), (1, .int (iI kn)), (0, .ref b)] [] post := by
  intro n
  induction n using Nat.strongRecOn with
  | _ n ih =>
    intro i σ hF hR h0 hcr hof hm
    refine tm_iload dX12_call_180 0 rfl ?_
    refine tm_iconst dX12_call_182 ?_
    refine tm_icmp_ge (tgt := 221) dX12_call_183 (by decide) ⟨by omega, by omega⟩ ⟨by decide, by decide⟩ (fun h1 => ?_) (fun h1 => ?_)
    · exact tm_sub [0, 1, 2, 3, 4] rfl (hx_221 (i) σ (Fr.rfl.trans (Fr.sub hF (by decide) (by decide) (by decide))) hR (by omega) hcr hof)
    · refine tm_iload dX12_call_186 0 rfl ?_
      refine tm_iload dX12_call_188 2 rfl ?_
      refine tm_icmp_ge (tgt := 221) dX12_call_190 (by decide) ⟨by omega, by omega⟩ ⟨by omega, by omega⟩ (fun h2 => ?_) (fun h2 => ?_)
      · exact tm_sub [0, 1, 2, 3, 4] rfl (hx_221 (i) σ (Fr.rfl.trans (Fr.sub hF (by decide) (by decide) (by decide))) hR (by omega) hcr hof)
      · refine tm_aload_n dX12_call_193 rfl 4 rfl ?_
        refine tm_iload dX12_call_194 1 rfl ?_
        refine tm_iload dX12_call_196 0 rfl ?_
        refine tm_aload_n dX12_call_198 rfl 4 rfl ?_
        refine tm_get (k := 41) (v := .ref (b + 1 + 20)) lay_12 dX12_call_199 (by decide) fl12_76 rfl ?_
        refine tm_iload dX12_call_202 0 rfl ?_
        refine tm_iald (z := i) (v := σ0.2.1 41 i) dX12_call_204 (show mT[20]? = some (41, 0, 4) from rfl) (by omega) (by omega) (by decide) (ra_F hF (by decide) (rfl)) ?_
        have g3 := RG.a hR0 41 (i)
        refine tm_aload_n dX12_call_205 rfl 4 rfl ?_
        refine tm_get (k := 42) (v := .ref (b + 1 + 21)) lay_12 dX12_call_206 (by decide) fl12_79 rfl ?_
        refine tm_iload dX12_call_209 0 rfl ?_
        refine tm_iald (z := i) (v := σ0.2.1 42 i) dX12_call_211 (show mT[21]? = some (42, 0, 4) from rfl) (by omega) (by omega) (by decide) (ra_F hF (by decide) (rfl)) ?_
        have g4 := RG.a hR0 42 (i)
        refine tm_callV (M := m_X12_call) (pc := 212) (ix := 298) (M' := m_X12_setArg) (As := [.int (iI x), .int (iI i), .int (iI (σ0.2.1 41 i)), .int (iI (σ0.2.1 42 i))]) (rest := []) dX12_call_212 ok_X12_setArg im_X12_setArg se_X12_setArg ml12_298 np_X12_setArg rfl rfl (Nat.le_of_ble_eq_true rfl) (Nat.le_of_ble_eq_true rfl) rfl (c_X12_setArg (d) (σ := σ) (x := x) (i := i) (k := σ0.2.1 41 i) (w := σ0.2.1 42 i) (by omega)) (fun r5 σ6 hp => ?_)
        obtain ⟨rfl, f8⟩ := hp
        subst f8
        show Tm _ _ 215 b (fArg (x) (i) (σ0.2.1 41 i) (σ0.2.1 42 i) σ) [(9, .int (iI i)), (8, .int (iI x)), (5, .int (iI m)), (1, .int (iI kn)), (0, .ref b)] [] _
        refine tm_iinc (q0 := 0) (L' := [(9, .int (iI (i + 1))), (8, .int (iI x)), (5, .int (iI m)), (1, .int (iI kn)), (0, .ref b)]) dX12_call_215 rfl (by decide) rfl ?_
        refine tm_goto (tgt := 180) dX12_call_218 (by decide) ?_
        exact tm_sub [0, 1, 2, 3, 4] rfl (ih _ (by omega) (i + 1) (fArg (x) (i) (σ0.2.1 41 i) (σ0.2.1 42 i) σ) ((Fr.rfl.trans (Fr.sub hF (by decide) (by decide) (by decide))).trans (Fr.sub fArg_fr (by decide) (by decide) (by decide))) ((hR).arg (by omega) (by omega)) (by omega) (hcr.step h0.1 rfl rfl) (hof.trans (OFF.arg (by omega) (by omega))) rfl)
theorem ml12_359 : Cond.methodLink RX12 359 yX12_bind ∈ pWW := pw9 (List.mem_of_getElem? (i := 21) rfl) rfl
theorem dX12_call_145 : decode cX12_call 145 = .ok (.aload_n 0, 1) := by decide +kernel
theorem dX12_call_146 : decode cX12_call 146 = .ok (.bipush 10, 2) := by decide +kernel
theorem dX12_call_148 : decode cX12_call 148 = .ok (.iload_n 1, 1) := by decide +kernel
theorem dX12_call_149 : decode cX12_call 149 = .ok (.iload 7, 2) := by decide +kernel
theorem dX12_call_151 : decode cX12_call 151 = .ok (.iconst (-1), 1) := by decide +kernel
theorem dX12_call_152 : decode cX12_call 152 = .ok (.if_icmp .ne 7, 3) := by decide +kernel
theorem dX12_call_159 : decode cX12_call 159 = .ok (.iload 7, 2) := by decide +kernel
theorem dX12_call_161 : decode cX12_call 161 = .ok (.bipush 6, 2) := by decide +kernel
theorem dX12_call_163 : decode cX12_call 163 = .ok (.if_icmp .ge 8, 3) := by decide +kernel
theorem dX12_call_171 : decode cX12_call 171 = .ok (.iconst 0, 1) := by decide +kernel
theorem dX12_call_172 : decode cX12_call 172 = .ok (.invokevirtual 294, 3) := by decide +kernel
theorem dX12_call_175 : decode cX12_call 175 = .ok (.istore 8, 2) := by decide +kernel
theorem dX12_call_177 : decode cX12_call 177 = .ok (.iconst 0, 1) := by decide +kernel
theorem dX12_call_178 : decode cX12_call 178 = .ok (.istore 9, 2) := by decide +kernel
theorem dX12_call_221 : decode cX12_call 221 = .ok (.aload_n 0, 1) := by decide +kernel
theorem dX12_call_222 : decode cX12_call 222 = .ok (.iload_n 1, 1) := by decide +kernel
theorem dX12_call_223 : decode cX12_call 223 = .ok (.invokevirtual 359, 3) := by decide +kernel
theorem dX12_call_226 : decode cX12_call 226 = .ok (.aload_n 0, 1) := by decide +kernel
theorem dX12_call_227 : decode cX12_call 227 = .ok (.bipush 41, 2) := by decide +kernel
theorem dX12_call_229 : decode cX12_call 229 = .ok (.invokevirtual 330, 3) := by decide +kernel
theorem dX12_call_232 : decode cX12_call 232 = .ok (.ireturn, 1) := by decide +kernel
theorem dX12_call_166 : decode cX12_call 166 = .ok (.iload 7, 2) := by decide +kernel
theorem dX12_call_168 : decode cX12_call 168 = .ok (.goto 4, 3) := by decide +kernel
theorem dX12_call_155 : decode cX12_call 155 = .ok (.iconst 0, 1) := by decide +kernel
theorem dX12_call_156 : decode cX12_call 156 = .ok (.goto 16, 3) := by decide +kernel
set_option maxHeartbeats 4000000 in
set_option maxRecDepth 20000 in
theorem b_call145 (d : Nat) {b : Nat} {σ : MS} {kn : Int} {w : Int64} {m : Int} {q : Int} {p : Int} {ρ : MS} {σc : MS} {σb : MS} {post : Option Value → MS → Prop} (hR : RG σ) (hrd0 : RDY ρ) (hts : TS 20 7 ρ [38, 141, 159] σb (fun c => (w, m, p, 0, c)) []) (hfn : Fr [26, 27] [] [] σb σ) (hpn : PBF σb σ) (hsn : srt σ = srt (clP w p m σb)) (hrds : RDY σ) (hk12 : 0 ≤ kn ∧ kn < 12) (hm : 0 ≤ m ∧ m ≤ 1200) (hrb : RBY σ w q) (hq : -1 ≤ q ∧ q < σ.1 43) (ht43 : σ.1 43 ≤ 260) (hE : σ.1 25 = 2 → σ.1 26 = 0 → E2 σ (1, m, w)) (hac : AC σc σ) (hpc : PBF σc σ) (htb : TBm σc σ) (hts33 : σc.1 33 ≤ σ.1 33) (h0c : 0 ≤ σc.1 30 ∧ 0 ≤ σc.1 34) (hcg : CAG m σ) (h28 : σ.1 28 = 0) (hret : ∀ (v : Int) (τ : MS), Fr [19, 20, 22, 23, 26, 27, 28, 32, 34, 39, 40] [3, 4, 5, 6, 7, 8, 35, 41, 42] [24, 38] σ τ → RG τ → (v = 0 ∨ v = 1) → PBF ρ τ → (v = 1 → ∃ lg, TS 20 5 ρ [159] τ qq lg ∧ ASF σc τ lg ∧ PBF σc τ) → (v = 0 → ∀ c : Int, GOF [20] ρ (qq c) τ) → τ.1 28 = 0 → post (some (.int (iI v))) τ) : ∀ (n : Nat) , ((0 : Int)).toNat = n → Tm (d + 9) m_X12_call 145 b σ [(7, .int (iI q)), (5, .int (iI m)), (1, .int (iI kn)), (0, .ref b)] [] post := by
  intro n
  induction n using Nat.strongRecOn with
  | _ n ih =>
    intro   hm
    have rdc := hrds.2
    have tkc := hrds.1.1
    refine tm_aload_n dX12_call_145 rfl 3 rfl ?_
    refine tm_bipush dX12_call_146 (by decide) ?_
    refine tm_iload_n dX12_call_148 rfl 2 rfl ?_
    refine tm_iload dX12_call_149 0 rfl ?_
    refine tm_iconst dX12_call_151 ?_
    refine tm_icmp_ne (tgt := 159) dX12_call_152 (by decide) ⟨by omega, by omega⟩ ⟨by decide, by decide⟩ (fun h1 => ?_) (fun h1 => ?_)
    · refine tm_iload dX12_call_159 0 rfl ?_
      refine tm_bipush dX12_call_161 (by decide) ?_
      refine tm_icmp_ge (tgt := 171) dX12_call_163 (by decide) ⟨by omega, by omega⟩ ⟨by decide, by decide⟩ (fun h2 => ?_) (fun h2 => ?_)
      · refine tm_iconst dX12_call_171 ?_
        refine tm_callV (M := m_X12_call) (pc := 172) (ix := 294) (M' := m_X12_put) (As := [.int (iI 10), .int (iI kn), .int (iI 0)]) (rest := []) dX12_call_172 ok_X12_put im_X12_put se_X12_put ml12_294 np_X12_put rfl rfl (Nat.le_of_ble_eq_true rfl) (Nat.le_of_ble_eq_true rfl) rfl (c_X12_put (d + 6) (σ := σ) (k := 10) (e := kn) (o := 0) hR (by omega) (by omega) (by omega) (by omega)) (fun r3 σ4 hp => ?_)
        obtain ⟨v5, rfl, f6, f7, f8, f9, f10, f11, f12⟩ := hp
        show Tm _ _ 175 b σ4 [(7, .int (iI q)), (5, .int (iI m)), (1, .int (iI kn)), (0, .ref b)] [.int (iI v5)] _
        refine tm_istore (L' := [(8, .int (iI v5)), (7, .int (iI q)), (5, .int (iI m)), (1, .int (iI kn)), (0, .ref b)]) dX12_call_175 (by decide) rfl ?_
        have jv := f8
        have jn := f9
        have ji := f10
        have jo := f11
        have jr := f12
        refine tm_iconst dX12_call_177 ?_
        refine tm_istore (L' := [(9, .int (iI 0)), (8, .int (iI v5)), (7, .int (iI q)), (5, .int (iI m)), (1, .int (iI kn)), (0, .ref b)]) dX12_call_178 (by decide) rfl ?_
        refine tm_sub [0, 1, 3, 4, 5] rfl (l_callA (d + 7) (σ0 := σ4) (kn := kn) (m := m) (x := v5) f7 (by omega) (by omega) (fun i20 σ21 F15 R16 f17 f18 f19 => ?_) _ (0) σ4 Fr.rfl f7 (by omega) CRG.start ⟨fun _ _ => ⟨rfl, rfl, rfl, rfl⟩, fun _ _ => ⟨rfl, rfl⟩, rfl, rfl⟩ rfl)
        show Tm _ _ 221 b σ21 [(9, .int (iI i20)), (8, .int (iI v5)), (5, .int (iI m)), (1, .int (iI kn)), (0, .ref b)] [] _
        have la0 := f17
        have la1 := f18
        have la2 := f19
        have fA := (show Fr [34] [3, 4, 5, 6, 7, 8] [] σ σ21 from ((Fr.rfl.trans (Fr.sub f6 (by decide) (by decide) (by decide))).trans (Fr.sub F15 (by decide) (by decide) (by decide))))
        have eA : σ21.1 34 = σ.1 34 + 1 := (F15.1 34 (by decide)).trans jn
        have pbA : PBF σ σ21 := PBF.it hpn.2.2.1 fA (by decide) (by decide) (by decide) eA jv (jo.trans la2)
        have tbA : TBm σ σ21 := TBm.of fA (by decide) (by decide) (by decide) (by decide)
        have e30A : σ21.1 30 = σ.1 30 := fA.1 30 (by decide)
        refine tm_aload_n dX12_call_221 rfl 4 rfl ?_
        refine tm_iload_n dX12_call_222 rfl 3 rfl ?_
        refine tm_callV (M := m_X12_call) (pc := 223) (ix := 359) (M' := m_X12_bind) (As := [.int (iI kn)]) (rest := []) dX12_call_223 ok_X12_bind im_X12_bind se_X12_bind ml12_359 np_X12_bind rfl rfl (Nat.le_of_ble_eq_true rfl) (Nat.le_of_ble_eq_true rfl) rfl (c_X12_bind (d + 5) (σ := σ21) (k := kn) R16 (by rw [e30A, eA]; omega) hk12) (fun r22 σ23 hp => ?_)
        obtain ⟨rfl, f25, f26, f27, f28, f29, f30⟩ := hp
        show Tm _ _ 226 b σ23 [(9, .int (iI i20)), (8, .int (iI v5)), (5, .int (iI m)), (1, .int (iI kn)), (0, .ref b)] [] _
        have pbB : PBF σ21 σ23 := PBF.it pbA.2.2.1 f25 (by decide) (by decide) (by decide) f27 rfl f28
        have fB := (show Fr [34] [3, 4, 5, 6, 7, 8] [] σ σ23 from (((Fr.rfl.trans (Fr.sub f6 (by decide) (by decide) (by decide))).trans (Fr.sub F15 (by decide) (by decide) (by decide))).trans (Fr.sub f25 (by decide) (by decide) (by decide))))
        have tbB : TBm σ21 σ23 := TBm.of f25 (by decide) (by decide) (by decide) (by decide)
        have e26B : σ23.1 26 = σ.1 26 := fB.1 26 (by decide)
        have tsB := hts.putc ((Fr.sub hfn (by decide) (by decide) (by decide)).trans (Fr.sub fB (by decide) (by decide) (by decide))) (hpn.trans (pbA.trans pbB)) (by rw [f27, eA, hfn.1 34 (by decide)]; omega) (by decide) hrd0 (fun z1 z2 => (hE (by rw [hfn.1 25 (by decide)]; exact z1) (by rw [← e26B]; exact z2)).bt (TBm.of hfn (by decide) (by decide) (by decide) (by decide))) (by rw [srt_fr fB (by decide) (by decide) (by decide)]; exact hsn)
        have asA : ASF σc σ21 [(1, m, w)] := ASF.call hac hpc pbA tbA hts33 eA (by rw [← jv]; exact (congrFun (F15.2.1 3 (by decide)) _).trans ji.1) (fun z1 z2 z3 z4 => by have ev := ((z4 (1, m, w) (List.mem_singleton.mpr rfl)).tb htb).rby hrb hq; rw [← jv]; have e5 := (congrFun (F15.2.1 5 (by decide)) _).trans ji.2.2.1; refine ⟨oki_call ji hk12 (by omega) F15 la1 ⟨la0.2.2, la0.2.1⟩ (hcg.mv f6 (by decide) (by decide) (by rw [jn]; omega)) (by rw [jn]; omega) (by rw [f6.2.1 11 (by decide)]; first | exact ev.2 | (exfalso; omega)), ?_, ?_⟩ <;> (rw [e5]; have z9 := htb.1; omega)) h0c
        have asB : ASF σc σ23 [(1, m, w)] := asA.snoc (hpc.trans pbA) pbB tbB f27 (fun _ _ _ => f29) (Or.inr (Or.inr (Or.inr f30))) h0c
        have e28B : σ23.1 28 = 0 := (fB.1 28 (by decide)).trans h28
        have tkB := tsB.2.2.1.1.1
        refine tm_aload_n dX12_call_226 rfl 4 rfl ?_
        refine tm_bipush dX12_call_227 (by decide) ?_
        refine tm_callV (M := m_X12_call) (pc := 229) (ix := 330) (M' := m_X12_need) (As := [.int (iI 41)]) (rest := []) dX12_call_229 ok_X12_need im_X12_need se_X12_need ml12_330 np_X12_need rfl rfl (Nat.le_of_ble_eq_true rfl) (Nat.le_of_ble_eq_true rfl) rfl (c_X12_need (d + 2) (σ := σ23) (c := 41) f26 (by omega) (by omega)) (fun r31 σ32 hp => ?_)
        obtain ⟨v33, rfl, f34, f35, f36, f37, f38, f39, f40⟩ := hp
        show Tm _ _ 232 b σ32 [(9, .int (iI i20)), (8, .int (iI v5)), (5, .int (iI m)), (1, .int (iI kn)), (0, .ref b)] [.int (iI v33)] _
        exact tm_zret (v := v33) rfl (by omega) dX12_call_232 ((fun (pbN : PBF _ _) => hret _ _ ((((Fr.rfl.trans (Fr.sub f6 (by decide) (by decide) (by decide))).trans (Fr.sub F15 (by decide) (by decide) (by decide))).trans (Fr.sub f25 (by decide) (by decide) (by decide))).trans (Fr.sub f35 (by decide) (by decide) (by decide))) f36 f34 (tsB.1.trans pbN) (fun z => have yq := f37 z; ⟨_, (tsB.needy f35 yq.2.2.1 yq.2.2.2.1 yq.2.2.2.2 (by have z2 := yq.1.1; omega) (gn_41 yq.1 yq.2.1)).le (by decide), asB.mv (hpc.trans (pbA.trans pbB)) pbN (TBm.of f35 (by decide) (by decide) (by decide) (by decide)) (f35.1 34 (by decide)) h0c, hpc.trans ((pbA.trans pbB).trans pbN)⟩) (fun z => (tsB.fail pbN (gf_41 (f38 z) (f40 z))).2) ((f35.1 28 (by decide)).trans e28B)) (PBF.of tsB.nn f35 (by decide) (by decide) (by decide) f39))
      · refine tm_iload dX12_call_166 0 rfl ?_
        refine tm_goto (tgt := 172) dX12_call_168 (by decide) ?_
        refine tm_callV (M := m_X12_call) (pc := 172) (ix := 294) (M' := m_X12_put) (As := [.int (iI 10), .int (iI kn), .int (iI q)]) (rest := []) dX12_call_172 ok_X12_put im_X12_put se_X12_put ml12_294 np_X12_put rfl rfl (Nat.le_of_ble_eq_true rfl) (Nat.le_of_ble_eq_true rfl) rfl (c_X12_put (d + 6) (σ := σ) (k := 10) (e := kn) (o := q) hR (by omega) (by omega) (by omega) (by omega)) (fun r41 σ42 hp => ?_)
        obtain ⟨v43, rfl, f44, f45, f46, f47, f48, f49, f50⟩ := hp
        show Tm _ _ 175 b σ42 [(7, .int (iI q)), (5, .int (iI m)), (1, .int (iI kn)), (0, .ref b)] [.int (iI v43)] _
        refine tm_istore (L' := [(8, .int (iI v43)), (7, .int (iI q)), (5, .int (iI m)), (1, .int (iI kn)), (0, .ref b)]) dX12_call_175 (by decide) rfl ?_
        have jv := f46
        have jn := f47
        have ji := f48
        have jo := f49
        have jr := f50
        refine tm_iconst dX12_call_177 ?_
        refine tm_istore (L' := [(9, .int (iI 0)), (8, .int (iI v43)), (7, .int (iI q)), (5, .int (iI m)), (1, .int (iI kn)), (0, .ref b)]) dX12_call_178 (by decide) rfl ?_
        refine tm_sub [0, 1, 3, 4, 5] rfl (l_callA (d + 7) (σ0 := σ42) (kn := kn) (m := m) (x := v43) f45 (by omega) (by omega) (fun i58 σ59 F53 R54 f55 f56 f57 => ?_) _ (0) σ42 Fr.rfl f45 (by omega) CRG.start ⟨fun _ _ => ⟨rfl, rfl, rfl, rfl⟩, fun _ _ => ⟨rfl, rfl⟩, rfl, rfl⟩ rfl)
        show Tm _ _ 221 b σ59 [(9, .int (iI i58)), (8, .int (iI v43)), (5, .int (iI m)), (1, .int (iI kn)), (0, .ref b)] [] _
        have la0 := f55
        have la1 := f56
        have la2 := f57
        have fA := (show Fr [34] [3, 4, 5, 6, 7, 8] [] σ σ59 from ((Fr.rfl.trans (Fr.sub f44 (by decide) (by decide) (by decide))).trans (Fr.sub F53 (by decide) (by decide) (by decide))))
        have eA : σ59.1 34 = σ.1 34 + 1 := (F53.1 34 (by decide)).trans jn
        have pbA : PBF σ σ59 := PBF.it hpn.2.2.1 fA (by decide) (by decide) (by decide) eA jv (jo.trans la2)
        have tbA : TBm σ σ59 := TBm.of fA (by decide) (by decide) (by decide) (by decide)
        have e30A : σ59.1 30 = σ.1 30 := fA.1 30 (by decide)
        refine tm_aload_n dX12_call_221 rfl 4 rfl ?_
        refine tm_iload_n dX12_call_222 rfl 3 rfl ?_
        refine tm_callV (M := m_X12_call) (pc := 223) (ix := 359) (M' := m_X12_bind) (As := [.int (iI kn)]) (rest := []) dX12_call_223 ok_X12_bind im_X12_bind se_X12_bind ml12_359 np_X12_bind rfl rfl (Nat.le_of_ble_eq_true rfl) (Nat.le_of_ble_eq_true rfl) rfl (c_X12_bind (d + 5) (σ := σ59) (k := kn) R54 (by rw [e30A, eA]; omega) hk12) (fun r60 σ61 hp => ?_)
        obtain ⟨rfl, f63, f64, f65, f66, f67, f68⟩ := hp
        show Tm _ _ 226 b σ61 [(9, .int (iI i58)), (8, .int (iI v43)), (5, .int (iI m)), (1, .int (iI kn)), (0, .ref b)] [] _
        have pbB : PBF σ59 σ61 := PBF.it pbA.2.2.1 f63 (by decide) (by decide) (by decide) f65 rfl f66
        have fB := (show Fr [34] [3, 4, 5, 6, 7, 8] [] σ σ61 from (((Fr.rfl.trans (Fr.sub f44 (by decide) (by decide) (by decide))).trans (Fr.sub F53 (by decide) (by decide) (by decide))).trans (Fr.sub f63 (by decide) (by decide) (by decide))))
        have tbB : TBm σ59 σ61 := TBm.of f63 (by decide) (by decide) (by decide) (by decide)
        have e26B : σ61.1 26 = σ.1 26 := fB.1 26 (by decide)
        have tsB := hts.putc ((Fr.sub hfn (by decide) (by decide) (by decide)).trans (Fr.sub fB (by decide) (by decide) (by decide))) (hpn.trans (pbA.trans pbB)) (by rw [f65, eA, hfn.1 34 (by decide)]; omega) (by decide) hrd0 (fun z1 z2 => (hE (by rw [hfn.1 25 (by decide)]; exact z1) (by rw [← e26B]; exact z2)).bt (TBm.of hfn (by decide) (by decide) (by decide) (by decide))) (by rw [srt_fr fB (by decide) (by decide) (by decide)]; exact hsn)
        have asA : ASF σc σ59 [(1, m, w)] := ASF.call hac hpc pbA tbA hts33 eA (by rw [← jv]; exact (congrFun (F53.2.1 3 (by decide)) _).trans ji.1) (fun z1 z2 z3 z4 => by have ev := ((z4 (1, m, w) (List.mem_singleton.mpr rfl)).tb htb).rby hrb hq; rw [← jv]; have e5 := (congrFun (F53.2.1 5 (by decide)) _).trans ji.2.2.1; refine ⟨oki_call ji hk12 (by omega) F53 la1 ⟨la0.2.2, la0.2.1⟩ (hcg.mv f44 (by decide) (by decide) (by rw [jn]; omega)) (by rw [jn]; omega) (by rw [f44.2.1 11 (by decide)]; first | exact ev.2 | (exfalso; omega)), ?_, ?_⟩ <;> (rw [e5]; have z9 := htb.1; omega)) h0c
        have asB : ASF σc σ61 [(1, m, w)] := asA.snoc (hpc.trans pbA) pbB tbB f65 (fun _ _ _ => f67) (Or.inr (Or.inr (Or.inr f68))) h0c
        have e28B : σ61.1 28 = 0 := (fB.1 28 (by decide)).trans h28
        have tkB := tsB.2.2.1.1.1
        refine tm_aload_n dX12_call_226 rfl 4 rfl ?_
        refine tm_bipush dX12_call_227 (by decide) ?_
        refine tm_callV (M := m_X12_call) (pc := 229) (ix := 330) (M' := m_X12_need) (As := [.int (iI 41)]) (rest := []) dX12_call_229 ok_X12_need im_X12_need se_X12_need ml12_330 np_X12_need rfl rfl (Nat.le_of_ble_eq_true rfl) (Nat.le_of_ble_eq_true rfl) rfl (c_X12_need (d + 2) (σ := σ61) (c := 41) f64 (by omega) (by omega)) (fun r69 σ70 hp => ?_)
        obtain ⟨v71, rfl, f72, f73, f74, f75, f76, f77, f78⟩ := hp
        show Tm _ _ 232 b σ70 [(9, .int (iI i58)), (8, .int (iI v43)), (5, .int (iI m)), (1, .int (iI kn)), (0, .ref b)] [.int (iI v71)] _
        exact tm_zret (v := v71) rfl (by omega) dX12_call_232 ((fun (pbN : PBF _ _) => hret _ _ ((((Fr.rfl.trans (Fr.sub f44 (by decide) (by decide) (by decide))).trans (Fr.sub F53 (by decide) (by decide) (by decide))).trans (Fr.sub f63 (by decide) (by decide) (by decide))).trans (Fr.sub f73 (by decide) (by decide) (by decide))) f74 f72 (tsB.1.trans pbN) (fun z => have yq := f75 z; ⟨_, (tsB.needy f73 yq.2.2.1 yq.2.2.2.1 yq.2.2.2.2 (by have z2 := yq.1.1; omega) (gn_41 yq.1 yq.2.1)).le (by decide), asB.mv (hpc.trans (pbA.trans pbB)) pbN (TBm.of f73 (by decide) (by decide) (by decide) (by decide)) (f73.1 34 (by decide)) h0c, hpc.trans ((pbA.trans pbB).trans pbN)⟩) (fun z => (tsB.fail pbN (gf_41 (f76 z) (f78 z))).2) ((f73.1 28 (by decide)).trans e28B)) (PBF.of tsB.nn f73 (by decide) (by decide) (by decide) f77))
    · refine tm_iconst dX12_call_155 ?_
      refine tm_goto (tgt := 172) dX12_call_156 (by decide) ?_
      refine tm_callV (M := m_X12_call) (pc := 172) (ix := 294) (M' := m_X12_put) (As := [.int (iI 10), .int (iI kn), .int (iI 0)]) (rest := []) dX12_call_172 ok_X12_put im_X12_put se_X12_put ml12_294 np_X12_put rfl rfl (Nat.le_of_ble_eq_true rfl) (Nat.le_of_ble_eq_true rfl) rfl (c_X12_put (d + 6) (σ := σ) (k := 10) (e := kn) (o := 0) hR (by omega) (by omega) (by omega) (by omega)) (fun r79 σ80 hp => ?_)
      obtain ⟨v81, rfl, f82, f83, f84, f85, f86, f87, f88⟩ := hp
      show Tm _ _ 175 b σ80 [(7, .int (iI q)), (5, .int (iI m)), (1, .int (iI kn)), (0, .ref b)] [.int (iI v81)] _
      refine tm_istore (L' := [(8, .int (iI v81)), (7, .int (iI q)), (5, .int (iI m)), (1, .int (iI kn)), (0, .ref b)]) dX12_call_175 (by decide) rfl ?_
      have jv := f84
      have jn := f85
      have ji := f86
      have jo := f87
      have jr := f88
      refine tm_iconst dX12_call_177 ?_
      refine tm_istore (L' := [(9, .int (iI 0)), (8, .int (iI v81)), (7, .int (iI q)), (5, .int (iI m)), (1, .int (iI kn)), (0, .ref b)]) dX12_call_178 (by decide) rfl ?_
      refine tm_sub [0, 1, 3, 4, 5] rfl (l_callA (d + 7) (σ0 := σ80) (kn := kn) (m := m) (x := v81) f83 (by omega) (by omega) (fun i96 σ97 F91 R92 f93 f94 f95 => ?_) _ (0) σ80 Fr.rfl f83 (by omega) CRG.start ⟨fun _ _ => ⟨rfl, rfl, rfl, rfl⟩, fun _ _ => ⟨rfl, rfl⟩, rfl, rfl⟩ rfl)
      show Tm _ _ 221 b σ97 [(9, .int (iI i96)), (8, .int (iI v81)), (5, .int (iI m)), (1, .int (iI kn)), (0, .ref b)] [] _
      have la0 := f93
      have la1 := f94
      have la2 := f95
      have fA := (show Fr [34] [3, 4, 5, 6, 7, 8] [] σ σ97 from ((Fr.rfl.trans (Fr.sub f82 (by decide) (by decide) (by decide))).trans (Fr.sub F91 (by decide) (by decide) (by decide))))
      have eA : σ97.1 34 = σ.1 34 + 1 := (F91.1 34 (by decide)).trans jn
      have pbA : PBF σ σ97 := PBF.it hpn.2.2.1 fA (by decide) (by decide) (by decide) eA jv (jo.trans la2)
      have tbA : TBm σ σ97 := TBm.of fA (by decide) (by decide) (by decide) (by decide)
      have e30A : σ97.1 30 = σ.1 30 := fA.1 30 (by decide)
      refine tm_aload_n dX12_call_221 rfl 4 rfl ?_
      refine tm_iload_n dX12_call_222 rfl 3 rfl ?_
      refine tm_callV (M := m_X12_call) (pc := 223) (ix := 359) (M' := m_X12_bind) (As := [.int (iI kn)]) (rest := []) dX12_call_223 ok_X12_bind im_X12_bind se_X12_bind ml12_359 np_X12_bind rfl rfl (Nat.le_of_ble_eq_true rfl) (Nat.le_of_ble_eq_true rfl) rfl (c_X12_bind (d + 5) (σ := σ97) (k := kn) R92 (by rw [e30A, eA]; omega) hk12) (fun r98 σ99 hp => ?_)
      obtain ⟨rfl, f101, f102, f103, f104, f105, f106⟩ := hp
      show Tm _ _ 226 b σ99 [(9, .int (iI i96)), (8, .int (iI v81)), (5, .int (iI m)), (1, .int (iI kn)), (0, .ref b)] [] _
      have pbB : PBF σ97 σ99 := PBF.it pbA.2.2.1 f101 (by decide) (by decide) (by decide) f103 rfl f104
      have fB := (show Fr [34] [3, 4, 5, 6, 7, 8] [] σ σ99 from (((Fr.rfl.trans (Fr.sub f82 (by decide) (by decide) (by decide))).trans (Fr.sub F91 (by decide) (by decide) (by decide))).trans (Fr.sub f101 (by decide) (by decide) (by decide))))
      have tbB : TBm σ97 σ99 := TBm.of f101 (by decide) (by decide) (by decide) (by decide)
      have e26B : σ99.1 26 = σ.1 26 := fB.1 26 (by decide)
      have tsB := hts.putc ((Fr.sub hfn (by decide) (by decide) (by decide)).trans (Fr.sub fB (by decide) (by decide) (by decide))) (hpn.trans (pbA.trans pbB)) (by rw [f103, eA, hfn.1 34 (by decide)]; omega) (by decide) hrd0 (fun z1 z2 => (hE (by rw [hfn.1 25 (by decide)]; exact z1) (by rw [← e26B]; exact z2)).bt (TBm.of hfn (by decide) (by decide) (by decide) (by decide))) (by rw [srt_fr fB (by decide) (by decide) (by decide)]; exact hsn)
      have asA : ASF σc σ97 [(1, m, w)] := ASF.call hac hpc pbA tbA hts33 eA (by rw [← jv]; exact (congrFun (F91.2.1 3 (by decide)) _).trans ji.1) (fun z1 z2 z3 z4 => by have ev := ((z4 (1, m, w) (List.mem_singleton.mpr rfl)).tb htb).rby hrb hq; rw [← jv]; have e5 := (congrFun (F91.2.1 5 (by decide)) _).trans ji.2.2.1; refine ⟨oki_call ji hk12 (by omega) F91 la1 ⟨la0.2.2, la0.2.1⟩ (hcg.mv f82 (by decide) (by decide) (by rw [jn]; omega)) (by rw [jn]; omega) (by rw [f82.2.1 11 (by decide)]; first | exact ev.2 | (exfalso; omega)), ?_, ?_⟩ <;> (rw [e5]; have z9 := htb.1; omega)) h0c
      have asB : ASF σc σ99 [(1, m, w)] := asA.snoc (hpc.trans pbA) pbB tbB f103 (fun _ _ _ => f105) (Or.inr (Or.inr (Or.inr f106))) h0c
      have e28B : σ99.1 28 = 0 := (fB.1 28 (by decide)).trans h28
      have tkB := tsB.2.2.1.1.1
      refine tm_aload_n dX12_call_226 rfl 4 rfl ?_
      refine tm_bipush dX12_call_227 (by decide) ?_
      refine tm_callV (M := m_X12_call) (pc := 229) (ix := 330) (M' := m_X12_need) (As := [.int (iI 41)]) (rest := []) dX12_call_229 ok_X12_need im_X12_need se_X12_need ml12_330 np_X12_need rfl rfl (Nat.le_of_ble_eq_true rfl) (Nat.le_of_ble_eq_true rfl) rfl (c_X12_need (d + 2) (σ := σ99) (c := 41) f102 (by omega) (by omega)) (fun r107 σ108 hp => ?_)
      obtain ⟨v109, rfl, f110, f111, f112, f113, f114, f115, f116⟩ := hp
      show Tm _ _ 232 b σ108 [(9, .int (iI i96)), (8, .int (iI v81)), (5, .int (iI m)), (1, .int (iI kn)), (0, .ref b)] [.int (iI v109)] _
      exact tm_zret (v := v109) rfl (by omega) dX12_call_232 ((fun (pbN : PBF _ _) => hret _ _ ((((Fr.rfl.trans (Fr.sub f82 (by decide) (by decide) (by decide))).trans (Fr.sub F91 (by decide) (by decide) (by decide))).trans (Fr.sub f101 (by decide) (by decide) (by decide))).trans (Fr.sub f111 (by decide) (by decide) (by decide))) f112 f110 (tsB.1.trans pbN) (fun z => have yq := f113 z; ⟨_, (tsB.needy f111 yq.2.2.1 yq.2.2.2.1 yq.2.2.2.2 (by have z2 := yq.1.1; omega) (gn_41 yq.1 yq.2.1)).le (by decide), asB.mv (hpc.trans (pbA.trans pbB)) pbN (TBm.of f111 (by decide) (by decide) (by decide) (by decide)) (f111.1 34 (by decide)) h0c, hpc.trans ((pbA.trans pbB).trans pbN)⟩) (fun z => (tsB.fail pbN (gf_41 (f114 z) (f116 z))).2) ((f111.1 28 (by decide)).trans e28B)) (PBF.of tsB.nn f111 (by decide) (by decide) (by decide) f115))
end
