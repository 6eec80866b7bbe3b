theorem ml12_317 : Cond.methodLink RX12 317 yX12_signed ∈ pWW := pw8 (List.mem_of_getElem? (i := 229) rfl) rfl
theorem dX12_product_9 : decode cX12_product 9 = .ok (.aload_n 0, 1) := by decide +kernel
theorem dX12_product_10 : decode cX12_product 10 = .ok (.bipush 42, 2) := by decide +kernel
theorem dX12_product_12 : decode cX12_product 12 = .ok (.invokevirtual 258, 3) := by decide +kernel
theorem dX12_product_15 : decode cX12_product 15 = .ok (.ifCond .eq 44, 3) := by decide +kernel
theorem dX12_product_18 : decode cX12_product 18 = .ok (.aload_n 0, 1) := by decide +kernel
theorem dX12_product_19 : decode cX12_product 19 = .ok (.getfield 285, 3) := by decide +kernel
theorem dX12_product_22 : decode cX12_product 22 = .ok (.istore_n 2, 1) := by decide +kernel
theorem dX12_product_23 : decode cX12_product 23 = .ok (.aload_n 0, 1) := by decide +kernel
theorem dX12_product_24 : decode cX12_product 24 = .ok (.getfield 288, 3) := by decide +kernel
theorem dX12_product_27 : decode cX12_product 27 = .ok (.istore_n 3, 1) := by decide +kernel
theorem dX12_product_28 : decode cX12_product 28 = .ok (.aload_n 0, 1) := by decide +kernel
theorem dX12_product_29 : decode cX12_product 29 = .ok (.invokevirtual 265, 3) := by decide +kernel
theorem dX12_product_32 : decode cX12_product 32 = .ok (.aload_n 0, 1) := by decide +kernel
theorem dX12_product_33 : decode cX12_product 33 = .ok (.invokevirtual 317, 3) := by decide +kernel
theorem dX12_product_36 : decode cX12_product 36 = .ok (.istore_n 1, 1) := by decide +kernel
theorem dX12_product_37 : decode cX12_product 37 = .ok (.iload_n 1, 1) := by decide +kernel
theorem dX12_product_38 : decode cX12_product 38 = .ok (.ifCond .eq 18, 3) := by decide +kernel
theorem dX12_product_56 : decode cX12_product 56 = .ok (.goto (-51), 3) := by decide +kernel
theorem dX12_product_5 : decode cX12_product 5 = .ok (.iload_n 1, 1) := by decide +kernel
theorem dX12_product_6 : decode cX12_product 6 = .ok (.ifCond .eq 53, 3) := by decide +kernel
theorem dX12_product_41 : decode cX12_product 41 = .ok (.aload_n 0, 1) := by decide +kernel
theorem dX12_product_42 : decode cX12_product 42 = .ok (.iconst 3, 1) := by decide +kernel
theorem dX12_product_43 : decode cX12_product 43 = .ok (.iload_n 2, 1) := by decide +kernel
theorem dX12_product_44 : decode cX12_product 44 = .ok (.iload_n 3, 1) := by decide +kernel
theorem dX12_product_45 : decode cX12_product 45 = .ok (.aload_n 0, 1) := by decide +kernel
theorem dX12_product_46 : decode cX12_product 46 = .ok (.getfield 285, 3) := by decide +kernel
theorem dX12_product_49 : decode cX12_product 49 = .ok (.aload_n 0, 1) := by decide +kernel
theorem dX12_product_50 : decode cX12_product 50 = .ok (.getfield 288, 3) := by decide +kernel
theorem dX12_product_53 : decode cX12_product 53 = .ok (.invokevirtual 310, 3) := by decide +kernel
set_option maxHeartbeats 4000000 in
set_option maxRecDepth 20000 in
theorem l_prod (d : Nat) {b : Nat} {σ0 : MS} {lv : Nat} {post : Option Value → MS → Prop} (hce : ∀ (d : Nat) {b : Nat} {σ : MS} (hR : RG σ) (hrd : RDY σ) (hnn : NN σ) (h28 : σ.1 28 = 8 - (lv : Int)), Tm (d + 4 * lv + 8) m_X12_expression 0 b σ [(0, .ref b)] [] (fun ro σ2 => ∃ v : Int, ro = some (.int (iI v)) ∧ ((v = 0 ∨ v = 1)) ∧ (Fr [19, 20, 22, 23, 26, 27, 28, 32, 34, 39, 40] [3, 4, 5, 6, 7, 8, 35] [24, 38] σ σ2) ∧ (RG σ2) ∧ (PBF σ σ2) ∧ (v = 1 → EXS σ σ2) ∧ (PRS 2 v σ σ2))) (hR0 : RG σ0) (hrd : RDY σ0) (hl28 : σ0.1 28 = 8 - (lv : Int)) (hx_59 : ∀ (a : Int) (σ : MS) , (Fr [19, 20, 22, 23, 26, 27, 28, 32, 34, 39, 40] [3, 4, 5, 6, 7, 8, 35] [24, 38] σ0 σ) → (RG σ) → (a = 0 ∨ a = 1) → ((a = 1 → TR 9 0 σ0 [] σ ∧ GT σ ∧ σ.1 28 = σ0.1 28)) → ((a = 0 → PBF σ0 σ ∧ ∀ q, GOF [9] σ0 q)) → Tm (d + 4 * lv + 4 * lv + 10) m_X12_product 59 b σ [(1, .int (iI a)), (0, .ref b)] [] post) : ∀ (n : Nat) (a : Int) (σ : MS) , (Fr [19, 20, 22, 23, 26, 27, 28, 32, 34, 39, 40] [3, 4, 5, 6, 7, 8, 35] [24, 38] σ0 σ) → (RG σ) → (a = 1) → (TR 9 0 σ0 [9] σ) → (GT σ) → (σ.1 28 = σ0.1 28) → (1300 - σ.1 19).toNat = n → Tm (d + 4 * lv + 4 * lv + 10) m_X12_product 9 b σ [(1, .int (iI a)), (0, .ref b)] [] post := by
  intro n
  induction n using Nat.strongRecOn with
  | _ n ih =>
    intro a σ hF hR h0 htr hgt h28s hm
    have tok0 := htr.2.2.1
    unfold RDY at tok0
    refine tm_aload_n dX12_product_9 rfl 1 rfl ?_
    refine tm_bipush dX12_product_10 (by decide) ?_
    refine tm_callV (M' := m_X12_isSign) (As := [.int (iI 42)]) (rest := []) dX12_product_12 ok_X12_isSign im_X12_isSign se_X12_isSign ml12_258 np_X12_isSign rfl rfl (Nat.le_of_ble_eq_true rfl) (Nat.le_of_ble_eq_true rfl) rfl (c_X12_isSign (d + 4 * lv + 8) (σ := σ) (c := 42) hR (by omega)) (fun r1 σ2 hp => ?_)
    obtain ⟨v3, rfl, rfl, f4, f5⟩ := hp
    show Tm _ _ 15 b σ [(1, .int (iI a)), (0, .ref b)] [.int (iI v3)] _
    have i42 := f5
    refine tm_if_eq (tgt := 59) dX12_product_15 (by decide) ⟨by omega, by omega⟩ (fun h6 => ?_) (fun h6 => ?_)
    · exact tm_sub [0, 1] rfl (hx_59 (a) σ (Fr.rfl.trans (Fr.sub hF (by decide) (by decide) (by decide))) hR (by omega) (fun _ => ⟨htr.nxt (fun q => g9n (fun z => absurd (i42.mpr z) (by omega))), hgt, h28s⟩) (fun q => absurd q (by omega)))
    · refine tm_aload_n dX12_product_18 rfl 1 rfl ?_
      refine tm_getS (k := 39) (t := σ.1 39) dX12_product_19 (by decide) fl12_285 rfl (rfl) ?_
      have g7 := RG.s hR 39
      refine tm_istore_n (L' := [(2, .int (iI (σ.1 39))), (1, .int (iI a)), (0, .ref b)]) dX12_product_22 rfl (by decide) rfl ?_
      refine tm_aload_n dX12_product_23 rfl 2 rfl ?_
      refine tm_getS (k := 40) (t := σ.1 40) dX12_product_24 (by decide) fl12_288 rfl (rfl) ?_
      have g8 := RG.s hR 40
      refine tm_istore_n (L' := [(3, .int (iI (σ.1 40))), (2, .int (iI (σ.1 39))), (1, .int (iI a)), (0, .ref b)]) dX12_product_27 rfl (by decide) rfl ?_
      refine tm_aload_n dX12_product_28 rfl 3 rfl ?_
      refine tm_callV (M' := m_X12_advance) (As := []) (rest := []) dX12_product_29 ok_X12_advance im_X12_advance se_X12_advance ml12_265 np_X12_advance rfl rfl (Nat.le_of_ble_eq_true rfl) (Nat.le_of_ble_eq_true rfl) rfl (c_X12_advance (d + 4 * lv + 4) (σ := σ)  hR (by have z := htr.2.2.1.1; omega)) (fun r9 σ10 hp => ?_)
      obtain ⟨rfl, f12, f13, f14, f15, f16⟩ := hp
      show Tm _ _ 32 b σ10 [(3, .int (iI (σ.1 40))), (2, .int (iI (σ.1 39))), (1, .int (iI a)), (0, .ref b)] [] _
      have gt := hgt
      unfold GT at gt
      have mm1 : σ.1 19 < σ10.1 19 := by omega
      have tr1 := htr.adv f13 f15 f16 (by omega) (fun q => g9y (i42.mp (by omega)) f12)
      have e28a : σ10.1 28 = σ.1 28 := f13.1 28 (by decide)
      have m34a : σ10.1 34 = σ.1 34 := f13.1 34 (by decide)
      refine tm_aload_n dX12_product_32 rfl 3 rfl ?_
      refine tm_callV (M' := m_X12_signed) (As := []) (rest := []) dX12_product_33 ok_X12_signed im_X12_signed se_X12_signed ml12_317 np_X12_signed rfl rfl (Nat.le_of_ble_eq_true rfl) (Nat.le_of_ble_eq_true rfl) rfl (c_X12_signed (d) (σ := σ10)  hce f14 tr1.2.2.1 tr1.nn (by rw [e28a, h28s]; exact hl28)) (fun r17 σ18 hp => ?_)
      obtain ⟨v19, rfl, f20, f21, f22, f23, f24, f25⟩ := hp
      show Tm _ _ 36 b σ18 [(3, .int (iI (σ.1 40))), (2, .int (iI (σ.1 39))), (1, .int (iI a)), (0, .ref b)] [.int (iI v19)] _
      have xp0 := f20
      have xp1 := f21
      have xp2 := f22
      have xp3 := f23
      have xp4 := f24
      have xp5 := f25
      refine tm_istore_n (L' := [(1, .int (iI v19)), (3, .int (iI (σ.1 40))), (2, .int (iI (σ.1 39))), (0, .ref b)]) dX12_product_36 rfl (by decide) rfl ?_
      refine tm_iload_n dX12_product_37 rfl 0 rfl ?_
      refine tm_if_eq (tgt := 56) dX12_product_38 (by decide) ⟨by omega, by omega⟩ (fun h26 => ?_) (fun h26 => ?_)
      · refine tm_goto (tgt := 5) dX12_product_56 (by decide) ?_
        refine tm_iload_n dX12_product_5 rfl 0 rfl ?_
        refine tm_if_eq (tgt := 59) dX12_product_6 (by decide) ⟨by omega, by omega⟩ (fun h27 => ?_) (fun h27 => ?_)
        · exact tm_sub [0, 3] rfl (hx_59 (v19) σ18 (((Fr.rfl.trans (Fr.sub hF (by decide) (by decide) (by decide))).trans (Fr.sub f13 (by decide) (by decide) (by decide))).trans (Fr.sub f21 (by decide) (by decide) (by decide))) f22 (by omega) (fun q => absurd q (by omega)) (fun _ => (tr1.fail xp3 (xp5.2 (by omega)))))
        · exact absurd h27 (by omega)
      · have tr2 := tr1.sub xp3 (xp4 (by omega)) (xp5.1 (by omega))
        have gt2 := (xp4 (by omega)).2.2.1
        have mm2 := (xp4 (by omega)).2.1.1
        have m34b := xp3.2.2.2.2.2.1
        have e28b := (xp4 (by omega)).2.2.2.2
        have rdj := tr2.2.2.1
        unfold RDY at rdj
        have gt := gt2
        refine tm_aload_n dX12_product_41 rfl 3 rfl ?_
        refine tm_iconst dX12_product_42 ?_
        refine tm_iload_n dX12_product_43 rfl 2 rfl ?_
        refine tm_iload_n dX12_product_44 rfl 1 rfl ?_
        refine tm_aload_n dX12_product_45 rfl 3 rfl ?_
        refine tm_getS (k := 39) (t := σ18.1 39) dX12_product_46 (by decide) fl12_285 rfl (rfl) ?_
        have g28 := RG.s f22 39
        refine tm_aload_n dX12_product_49 rfl 3 rfl ?_
        refine tm_getS (k := 40) (t := σ18.1 40) dX12_product_50 (by decide) fl12_288 rfl (rfl) ?_
        have g29 := RG.s f22 40
        refine tm_callV (M' := m_X12_joins) (As := [.int (iI 3), .int (iI (σ.1 39)), .int (iI (σ.1 40)), .int (iI (σ18.1 39)), .int (iI (σ18.1 40))]) (rest := []) dX12_product_53 ok_X12_joins im_X12_joins se_X12_joins ml12_310 np_X12_joins rfl rfl (Nat.le_of_ble_eq_true rfl) (Nat.le_of_ble_eq_true rfl) rfl (c_X12_joins (d + 4 * lv + 6) (σ := σ18) (k := 3) (ak := σ.1 39) (a := σ.1 40) (bk := σ18.1 39) (c := σ18.1 40) f22 (by omega) (by decide) (by omega) (by have z := gt; unfold GT at z; omega) (by omega) (by omega) (by omega)) (fun r30 σ31 hp => ?_)
        obtain ⟨rfl, f33, f34, f35, f36, f37⟩ := hp
        show Tm _ _ 56 b σ31 [(1, .int (iI v19)), (3, .int (iI (σ.1 40))), (2, .int (iI (σ.1 39))), (0, .ref b)] [] _
        have tr3 := tr2.join f33 ⟨f35.1, f35.2.1⟩ f36 f37 (by decide) hrd
        have gtj : GT σ31 := by unfold GT; rw [f35.2.2.1, f35.2.2.2, f35.1]; exact ⟨Or.inr rfl, fun _ => by omega⟩
        have mm3 : σ31.1 19 = _ := f33.1 19 (by decide)
        have e28c : σ31.1 28 = σ0.1 28 := by rw [f33.1 28 (by decide), e28b, e28a]; exact h28s
        refine tm_goto (tgt := 5) dX12_product_56 (by decide) ?_
        refine tm_iload_n dX12_product_5 rfl 0 rfl ?_
        refine tm_if_eq (tgt := 59) dX12_product_6 (by decide) ⟨by omega, by omega⟩ (fun h38 => ?_) (fun h38 => ?_)
        · exact absurd h38 (by omega)
        · exact tm_sub [0, 3] rfl (ih _ (by omega) (v19) σ31 ((((Fr.rfl.trans (Fr.sub hF (by decide) (by decide) (by decide))).trans (Fr.sub f13 (by decide) (by decide) (by decide))).trans (Fr.sub f21 (by decide) (by decide) (by decide))).trans (Fr.sub f33 (by decide) (by decide) (by decide))) f34 (by omega) (tr3.le (by decide)) gtj e28c rfl)
theorem dX12_product_0 : decode cX12_product 0 = .ok (.aload_n 0, 1) := by decide +kernel
theorem dX12_product_1 : decode cX12_product 1 = .ok (.invokevirtual 317, 3) := by decide +kernel
theorem dX12_product_4 : decode cX12_product 4 = .ok (.istore_n 1, 1) := by decide +kernel
theorem dX12_product_59 : decode cX12_product 59 = .ok (.iload_n 1, 1) := by decide +kernel
theorem dX12_product_60 : decode cX12_product 60 = .ok (.ireturn, 1) := by decide +kernel
set_option maxHeartbeats 4000000 in
set_option maxRecDepth 20000 in
theorem c_X12_product (d : Nat) {b : Nat} {σ : MS} {lv : Nat} (hce : ∀ (d : Nat) {b : Nat} {σ : MS} (hR : RG σ) (hrd : RDY σ) (hnn : NN σ) (h28 : σ.1 28 = 8 - (lv : Int)), Tm (d + 4 * lv + 8) m_X12_expression 0 b σ [(0, .ref b)] [] (fun ro σ2 => ∃ v : Int, ro = some (.int (iI v)) ∧ ((v = 0 ∨ v = 1)) ∧ (Fr [19, 20, 22, 23, 26, 27, 28, 32, 34, 39, 40] [3, 4, 5, 6, 7, 8, 35] [24, 38] σ σ2) ∧ (RG σ2) ∧ (PBF σ σ2) ∧ (v = 1 → EXS σ σ2) ∧ (PRS 2 v σ σ2))) (hR : RG σ) (hrd : RDY σ) (hnn : NN σ) (h28 : σ.1 28 = 8 - (lv : Int)) : Tm (d + 4 * lv + 4 * lv + 10) m_X12_product 0 b σ [(0, .ref b)] [] (fun ro σ2 => ∃ v : Int, ro = some (.int (iI v)) ∧ ((v = 0 ∨ v = 1)) ∧ (Fr [19, 20, 22, 23, 26, 27, 28, 32, 34, 39, 40] [3, 4, 5, 6, 7, 8, 35] [24, 38] σ σ2) ∧ (RG σ2) ∧ (PBF σ σ2) ∧ (v = 1 → EXS σ σ2) ∧ (PRS 4 v σ σ2)) := by
  have tr0 : TR 4 0 σ [4] σ := TR.start hrd hnn
  have tr1 := tr0.nxt (fun q => g4)
  refine tm_aload_n dX12_product_0 rfl 0 rfl ?_
  refine tm_callV (M' := m_X12_signed) (As := []) (rest := []) dX12_product_1 ok_X12_signed im_X12_signed se_X12_signed ml12_317 np_X12_signed rfl rfl (Nat.le_of_ble_eq_true rfl) (Nat.le_of_ble_eq_true rfl) rfl (c_X12_signed (d) (σ := σ)  hce hR hrd hnn h28) (fun r1 σ2 hp => ?_)
  obtain ⟨v3, rfl, f4, f5, f6, f7, f8, f9⟩ := hp
  show Tm _ _ 4 b σ2 [(0, .ref b)] [.int (iI v3)] _
  have xp0 := f4
  have xp1 := f5
  have xp2 := f6
  have xp3 := f7
  have xp4 := f8
  have xp5 := f9
  refine tm_istore_n (L' := [(1, .int (iI v3)), (0, .ref b)]) dX12_product_4 rfl (by decide) rfl ?_
  refine tm_iload_n dX12_product_5 rfl 0 rfl ?_
  refine tm_if_eq (tgt := 59) dX12_product_6 (by decide) ⟨by omega, by omega⟩ (fun h10 => ?_) (fun h10 => ?_)
  · refine tm_iload_n dX12_product_59 rfl 0 rfl ?_
    exact tm_zret (v := v3) rfl (by omega) dX12_product_60 (⟨_, rfl, by omega, (Fr.rfl.trans (Fr.sub f5 (by decide) (by decide) (by decide))), f6, (tr1.fail xp3 (xp5.2 (by omega))).1, fun q => absurd q (by omega), by rw [show v3 = 0 by omega]; exact PRS.no (tr1.fail xp3 (xp5.2 (by omega))).2⟩)
  · have tr2 := tr1.sub xp3 (xp4 (by omega)) (xp5.1 (by omega))
    have e28z := (xp4 (by omega)).2.2.2.2
    refine tm_sub [0, 1] rfl (l_prod (d) (σ0 := σ2) hce f6 tr2.2.2.1 ((xp4 (by omega)).2.2.2.2.trans h28) (fun a18 σ19 F13 R14 f15 f16 f17 => ?_) _ (v3) σ2 Fr.rfl f6 (by omega) (TR.start (xp4 (by omega)).1 xp3.2.2.1) (xp4 (by omega)).2.2.1 rfl rfl)
    show Tm _ _ 59 b σ19 [(1, .int (iI a18)), (0, .ref b)] [] _
    refine tm_iload_n dX12_product_59 rfl 0 rfl ?_
    exact tm_zret (v := a18) rfl (by omega) dX12_product_60 (⟨_, rfl, by omega, ((Fr.rfl.trans (Fr.sub f5 (by decide) (by decide) (by decide))).trans (Fr.sub F13 (by decide) (by decide) (by decide))), R14, (by rcases f15 with z | z; exact tr2.1.trans (f17 z).1; exact tr2.1.trans (f16 z).1.1), fun z => (tr2.cat (f16 z).1).exs (by decide) (f16 z).2.1 ((f16 z).2.2.trans e28z), ⟨fun z q => (tr2.cat (f16 z).1).2.2.2.2 q, fun z q => (tr2.2.2.2.2 q).fail (((f17 z).2 q).more [])⟩⟩)
theorem ml12_314 : Cond.methodLink RX12 314 yX12_product ∈ pWW := pw8 (List.mem_of_getElem? (i := 225) rfl) rfl
theorem dX12_sum_9 : decode cX12_sum 9 = .ok (.aload_n 0, 1) := by decide +kernel
theorem dX12_sum_10 : decode cX12_sum 10 = .ok (.bipush 43, 2) := by decide +kernel
theorem dX12_sum_12 : decode cX12_sum 12 = .ok (.invokevirtual 258, 3) := by decide +kernel
theorem dX12_sum_15 : decode cX12_sum 15 = .ok (.ifCond .ne 12, 3) := by decide +kernel
theorem dX12_sum_27 : decode cX12_sum 27 = .ok (.aload_n 0, 1) := by decide +kernel
theorem dX12_sum_28 : decode cX12_sum 28 = .ok (.bipush 43, 2) := by decide +kernel
theorem dX12_sum_30 : decode cX12_sum 30 = .ok (.invokevirtual 258, 3) := by decide +kernel
theorem dX12_sum_33 : decode cX12_sum 33 = .ok (.ifCond .eq 7, 3) := by decide +kernel
theorem dX12_sum_40 : decode cX12_sum 40 = .ok (.iconst 2, 1) := by decide +kernel
theorem dX12_sum_41 : decode cX12_sum 41 = .ok (.istore_n 2, 1) := by decide +kernel
theorem dX12_sum_42 : decode cX12_sum 42 = .ok (.aload_n 0, 1) := by decide +kernel
theorem dX12_sum_43 : decode cX12_sum 43 = .ok (.getfield 285, 3) := by decide +kernel
theorem dX12_sum_46 : decode cX12_sum 46 = .ok (.istore_n 3, 1) := by decide +kernel
theorem dX12_sum_47 : decode cX12_sum 47 = .ok (.aload_n 0, 1) := by decide +kernel
theorem dX12_sum_48 : decode cX12_sum 48 = .ok (.getfield 288, 3) := by decide +kernel
theorem dX12_sum_51 : decode cX12_sum 51 = .ok (.istore 4, 2) := by decide +kernel
theorem dX12_sum_53 : decode cX12_sum 53 = .ok (.aload_n 0, 1) := by decide +kernel
theorem dX12_sum_54 : decode cX12_sum 54 = .ok (.invokevirtual 265, 3) := by decide +kernel
theorem dX12_sum_57 : decode cX12_sum 57 = .ok (.aload_n 0, 1) := by decide +kernel
theorem dX12_sum_58 : decode cX12_sum 58 = .ok (.invokevirtual 314, 3) := by decide +kernel
theorem dX12_sum_61 : decode cX12_sum 61 = .ok (.istore_n 1, 1) := by decide +kernel
theorem dX12_sum_62 : decode cX12_sum 62 = .ok (.iload_n 1, 1) := by decide +kernel
theorem dX12_sum_63 : decode cX12_sum 63 = .ok (.ifCond .eq 19, 3) := by decide +kernel
theorem dX12_sum_82 : decode cX12_sum 82 = .ok (.goto (-77), 3) := by decide +kernel
theorem dX12_sum_5 : decode cX12_sum 5 = .ok (.iload_n 1, 1) := by decide +kernel
theorem dX12_sum_6 : decode cX12_sum 6 = .ok (.ifCond .eq 79, 3) := by decide +kernel
theorem dX12_sum_66 : decode cX12_sum 66 = .ok (.aload_n 0, 1) := by decide +kernel
theorem dX12_sum_67 : decode cX12_sum 67 = .ok (.iload_n 2, 1) := by decide +kernel
theorem dX12_sum_68 : decode cX12_sum 68 = .ok (.iload_n 3, 1) := by decide +kernel
theorem dX12_sum_69 : decode cX12_sum 69 = .ok (.iload 4, 2) := by decide +kernel
theorem dX12_sum_71 : decode cX12_sum 71 = .ok (.aload_n 0, 1) := by decide +kernel
theorem dX12_sum_72 : decode cX12_sum 72 = .ok (.getfield 285, 3) := by decide +kernel
theorem dX12_sum_75 : decode cX12_sum 75 = .ok (.aload_n 0, 1) := by decide +kernel
theorem dX12_sum_76 : decode cX12_sum 76 = .ok (.getfield 288, 3) := by decide +kernel
theorem dX12_sum_79 : decode cX12_sum 79 = .ok (.invokevirtual 310, 3) := by decide +kernel
theorem dX12_sum_36 : decode cX12_sum 36 = .ok (.iconst 1, 1) := by decide +kernel
theorem dX12_sum_37 : decode cX12_sum 37 = .ok (.goto 4, 3) := by decide +kernel
theorem dX12_sum_18 : decode cX12_sum 18 = .ok (.aload_n 0, 1) := by decide +kernel
theorem dX12_sum_19 : decode cX12_sum 19 = .ok (.bipush 45, 2) := by decide +kernel
theorem dX12_sum_21 : decode cX12_sum 21 = .ok (.invokevirtual 258, 3) := by decide +kernel
theorem dX12_sum_24 : decode cX12_sum 24 = .ok (.ifCond .eq 61, 3) := by decide +kernel
set_option maxHeartbeats 4000000 in
set_option maxRecDepth 20000 in
theorem l_sum (d : Nat) {b : Nat} {σ0 : MS} {lv : Nat} {post : Option Value → MS → Prop} (hce : ∀ (d : Nat) {b : Nat} {σ : MS} (hR : RG σ) (hrd : RDY σ) (hnn : NN σ) (h28 : σ.1 28 = 8 - (lv : Int)), Tm (d + 4 * lv + 8) m_X12_expression 0 b σ [(0, .ref b)] [] (fun ro σ2 => ∃ v : Int, ro = some (.int (iI v)) ∧ ((v = 0 ∨ v = 1)) ∧ (Fr [19, 20, 22, 23, 26, 27, 28, 32, 34, 39, 40] [3, 4, 5, 6, 7, 8, 35] [24, 38] σ σ2) ∧ (RG σ2) ∧ (PBF σ σ2) ∧ (v = 1 → EXS σ σ2) ∧ (PRS 2 v σ σ2))) (hR0 : RG σ0) (hrd : RDY σ0) (hl28 : σ0.1 28 = 8 - (lv : Int)) (hx_85 : ∀ (a : Int) (σ : MS) , (Fr [19, 20, 22, 23, 26, 27, 28, 32, 34, 39, 40] [3, 4, 5, 6, 7, 8, 35] [24, 38] σ0 σ) → (RG σ) → (a = 0 ∨ a = 1) → ((a = 1 → TR 8 0 σ0 [] σ ∧ GT σ ∧ σ.1 28 = σ0.1 28)) → ((a = 0 → PBF σ0 σ ∧ ∀ q, GOF [8] σ0 q)) → Tm (d + 4 * lv + 4 * lv + 11) m_X12_sum 85 b σ [(1, .int (iI a)), (0, .ref b)] [] post) : ∀ (n : Nat) (a : Int) (σ : MS) , (Fr [19, 20, 22, 23, 26, 27, 28, 32, 34, 39, 40] [3, 4, 5, 6, 7, 8, 35] [24, 38] σ0 σ) → (RG σ) → (a = 1) → (TR 8 0 σ0 [8] σ) → (GT σ) → (σ.1 28 = σ0.1 28) → (1300 - σ.1 19).toNat = n → Tm (d + 4 * lv + 4 * lv + 11) m_X12_sum 9 b σ [(1, .int (iI a)), (0, .ref b)] [] post := by
  intro n
  induction n using Nat.strongRecOn with
  | _ n ih =>
    intro a σ hF hR h0 htr hgt h28s hm
    have tok0 := htr.2.2.1
    unfold RDY at tok0
    refine tm_aload_n dX12_sum_9 rfl 1 rfl ?_
    refine tm_bipush dX12_sum_10 (by decide) ?_
    refine tm_callV (M' := m_X12_isSign) (As := [.int (iI 43)]) (rest := []) dX12_sum_12 ok_X12_isSign im_X12_isSign se_X12_isSign ml12_258 np_X12_isSign rfl rfl (Nat.le_of_ble_eq_true rfl) (Nat.le_of_ble_eq_true rfl) rfl (c_X12_isSign (d + 4 * lv + 9) (σ := σ) (c := 43) hR (by omega)) (fun r1 σ2 hp => ?_)
    obtain ⟨v3, rfl, rfl, f4, f5⟩ := hp
    show Tm _ _ 15 b σ [(1, .int (iI a)), (0, .ref b)] [.int (iI v3)] _
    have i43 := f5
    refine tm_if_ne (tgt := 27) dX12_sum_15 (by decide) ⟨by omega, by omega⟩ (fun h6 => ?_) (fun h6 => ?_)
    · refine tm_aload_n dX12_sum_27 rfl 1 rfl ?_
      refine tm_bipush dX12_sum_28 (by decide) ?_
      refine tm_callV (M' := m_X12_isSign) (As := [.int (iI 43)]) (rest := []) dX12_sum_30 ok_X12_isSign im_X12_isSign se_X12_isSign ml12_258 np_X12_isSign rfl rfl (Nat.le_of_ble_eq_true rfl) (Nat.le_of_ble_eq_true rfl) rfl (c_X12_isSign (d + 4 * lv + 9) (σ := σ) (c := 43) hR (by omega)) (fun r7 σ8 hp => ?_)
      obtain ⟨v9, rfl, rfl, f10, f11⟩ := hp
      show Tm _ _ 33 b σ [(1, .int (iI a)), (0, .ref b)] [.int (iI v9)] _
      have i43b := f11
      refine tm_if_eq (tgt := 40) dX12_sum_33 (by decide) ⟨by omega, by omega⟩ (fun h12 => ?_) (fun h12 => ?_)
      · refine tm_iconst dX12_sum_40 ?_
        refine tm_istore_n (L' := [(2, .int (iI 2)), (1, .int (iI a)), (0, .ref b)]) dX12_sum_41 rfl (by decide) rfl ?_
        refine tm_aload_n dX12_sum_42 rfl 2 rfl ?_
        refine tm_getS (k := 39) (t := σ.1 39) dX12_sum_43 (by decide) fl12_285 rfl (rfl) ?_
        have g13 := RG.s hR 39
        refine tm_istore_n (L' := [(3, .int (iI (σ.1 39))), (2, .int (iI 2)), (1, .int (iI a)), (0, .ref b)]) dX12_sum_46 rfl (by decide) rfl ?_
        refine tm_aload_n dX12_sum_47 rfl 3 rfl ?_
        refine tm_getS (k := 40) (t := σ.1 40) dX12_sum_48 (by decide) fl12_288 rfl (rfl) ?_
        have g14 := RG.s hR 40
        refine tm_istore (L' := [(4, .int (iI (σ.1 40))), (3, .int (iI (σ.1 39))), (2, .int (iI 2)), (1, .int (iI a)), (0, .ref b)]) dX12_sum_51 (by decide) rfl ?_
        refine tm_aload_n dX12_sum_53 rfl 4 rfl ?_
        refine tm_callV (M' := m_X12_advance) (As := []) (rest := []) dX12_sum_54 ok_X12_advance im_X12_advance se_X12_advance ml12_265 np_X12_advance rfl rfl (Nat.le_of_ble_eq_true rfl) (Nat.le_of_ble_eq_true rfl) rfl (c_X12_advance (d + 4 * lv + 5) (σ := σ)  hR (by have z := htr.2.2.1.1; omega)) (fun r15 σ16 hp => ?_)
        obtain ⟨rfl, f18, f19, f20, f21, f22⟩ := hp
        show Tm _ _ 57 b σ16 [(4, .int (iI (σ.1 40))), (3, .int (iI (σ.1 39))), (2, .int (iI 2)), (1, .int (iI a)), (0, .ref b)] [] _
        have gt := hgt
        unfold GT at gt
        have mm1 : σ.1 19 < σ16.1 19 := by omega
        have tr1 := htr.adv f19 f21 f22 (by omega) (fun q => g8y (by first | exact Or.inl (i43.mp (by omega)) | exact Or.inr (i45.mp (by omega))) f18)
        have e28a : σ16.1 28 = σ.1 28 := f19.1 28 (by decide)
        have m34a : σ16.1 34 = σ.1 34 := f19.1 34 (by decide)
        refine tm_aload_n dX12_sum_57 rfl 4 rfl ?_
        refine tm_callV (M' := m_X12_product) (As := []) (rest := []) dX12_sum_58 ok_X12_product im_X12_product se_X12_product ml12_314 np_X12_product rfl rfl (Nat.le_of_ble_eq_true rfl) (Nat.le_of_ble_eq_true rfl) rfl (c_X12_product (d) (σ := σ16)  hce f20 tr1.2.2.1 tr1.nn (by rw [e28a, h28s]; exact hl28)) (fun r23 σ24 hp => ?_)
        obtain ⟨v25, rfl, f26, f27, f28, f29, f30, f31⟩ := hp
        show Tm _ _ 61 b σ24 [(4, .int (iI (σ.1 40))), (3, .int (iI (σ.1 39))), (2, .int (iI 2)), (1, .int (iI a)), (0, .ref b)] [.int (iI v25)] _
        have xp0 := f26
        have xp1 := f27
        have xp2 := f28
        have xp3 := f29
        have xp4 := f30
        have xp5 := f31
        refine tm_istore_n (L' := [(1, .int (iI v25)), (4, .int (iI (σ.1 40))), (3, .int (iI (σ.1 39))), (2, .int (iI 2)), (0, .ref b)]) dX12_sum_61 rfl (by decide) rfl ?_
        refine tm_iload_n dX12_sum_62 rfl 0 rfl ?_
        refine tm_if_eq (tgt := 82) dX12_sum_63 (by decide) ⟨by omega, by omega⟩ (fun h32 => ?_) (fun h32 => ?_)
        · refine tm_goto (tgt := 5) dX12_sum_82 (by decide) ?_
          refine tm_iload_n dX12_sum_5 rfl 0 rfl ?_
          refine tm_if_eq (tgt := 85) dX12_sum_6 (by decide) ⟨by omega, by omega⟩ (fun h33 => ?_) (fun h33 => ?_)
          · exact tm_sub [0, 4] rfl (hx_85 (v25) σ24 (((Fr.rfl.trans (Fr.sub hF (by decide) (by decide) (by decide))).trans (Fr.sub f19 (by decide) (by decide) (by decide))).trans (Fr.sub f27 (by decide) (by decide) (by decide))) f28 (by omega) (fun q => absurd q (by omega)) (fun _ => (tr1.fail xp3 (xp5.2 (by omega)))))
          · exact absurd h33 (by omega)
        · have tr2 := tr1.sub xp3 (xp4 (by omega)) (xp5.1 (by omega))
          have gt2 := (xp4 (by omega)).2.2.1
          have mm2 := (xp4 (by omega)).2.1.1
          have m34b := xp3.2.2.2.2.2.1
          have e28b := (xp4 (by omega)).2.2.2.2
          have rdj := tr2.2.2.1
          unfold RDY at rdj
          have gt := gt2
          refine tm_aload_n dX12_sum_66 rfl 4 rfl ?_
          refine tm_iload_n dX12_sum_67 rfl 3 rfl ?_
          refine tm_iload_n dX12_sum_68 rfl 2 rfl ?_
          refine tm_iload dX12_sum_69 1 rfl ?_
          refine tm_aload_n dX12_sum_71 rfl 4 rfl ?_
          refine tm_getS (k := 39) (t := σ24.1 39) dX12_sum_72 (by decide) fl12_285 rfl (rfl) ?_
          have g34 := RG.s f28 39
          refine tm_aload_n dX12_sum_75 rfl 4 rfl ?_
          refine tm_getS (k := 40) (t := σ24.1 40) dX12_sum_76 (by decide) fl12_288 rfl (rfl) ?_
          have g35 := RG.s f28 40
          refine tm_callV (M' := m_X12_joins) (As := [.int (iI 2), .int (iI (σ.1 39)), .int (iI (σ.1 40)), .int (iI (σ24.1 39)), .int (iI (σ24.1 40))]) (rest := []) dX12_sum_79 ok_X12_joins im_X12_joins se_X12_joins ml12_310 np_X12_joins rfl rfl (Nat.le_of_ble_eq_true rfl) (Nat.le_of_ble_eq_true rfl) rfl (c_X12_joins (d + 4 * lv + 7) (σ := σ24) (k := 2) (ak := σ.1 39) (a := σ.1 40) (bk := σ24.1 39) (c := σ24.1 40) f28 (by omega) (by decide) (by omega) (by have z := gt; unfold GT at z; omega) (by omega) (by omega) (by omega)) (fun r36 σ37 hp => ?_)
          obtain ⟨rfl, f39, f40, f41, f42, f43⟩ := hp
          show Tm _ _ 82 b σ37 [(1, .int (iI v25)), (4, .int (iI (σ.1 40))), (3, .int (iI (σ.1 39))), (2, .int (iI 2)), (0, .ref b)] [] _
          have tr3 := tr2.join f39 ⟨f41.1, f41.2.1⟩ f42 f43 (by decide) hrd
          have gtj : GT σ37 := by unfold GT; rw [f41.2.2.1, f41.2.2.2, f41.1]; exact ⟨Or.inr rfl, fun _ => by omega⟩
          have mm3 : σ37.1 19 = _ := f39.1 19 (by decide)
          have e28c : σ37.1 28 = σ0.1 28 := by rw [f39.1 28 (by decide), e28b, e28a]; exact h28s
          refine tm_goto (tgt := 5) dX12_sum_82 (by decide) ?_
          refine tm_iload_n dX12_sum_5 rfl 0 rfl ?_
          refine tm_if_eq (tgt := 85) dX12_sum_6 (by decide) ⟨by omega, by omega⟩ (fun h44 => ?_) (fun h44 => ?_)
          · exact absurd h44 (by omega)
          · exact tm_sub [0, 4] rfl (ih _ (by omega) (v25) σ37 ((((Fr.rfl.trans (Fr.sub hF (by decide) (by decide) (by decide))).trans (Fr.sub f19 (by decide) (by decide) (by decide))).trans (Fr.sub f27 (by decide) (by decide) (by decide))).trans (Fr.sub f39 (by decide) (by decide) (by decide))) f40 (by omega) (tr3.le (by decide)) gtj e28c rfl)
      · refine tm_iconst dX12_sum_36 ?_
        refine tm_goto (tgt := 41) dX12_sum_37 (by decide) ?_
        refine tm_istore_n (L' := [(2, .int (iI 1)), (1, .int (iI a)), (0, .ref b)]) dX12_sum_41 rfl (by decide) rfl ?_
        refine tm_aload_n dX12_sum_42 rfl 2 rfl ?_
        refine tm_getS (k := 39) (t := σ.1 39) dX12_sum_43 (by decide) fl12_285 rfl (rfl) ?_
        have g45 := RG.s hR 39
        refine tm_istore_n (L' := [(3, .int (iI (σ.1 39))), (2, .int (iI 1)), (1, .int (iI a)), (0, .ref b)]) dX12_sum_46 rfl (by decide) rfl ?_
        refine tm_aload_n dX12_sum_47 rfl 3 rfl ?_
        refine tm_getS (k := 40) (t := σ.1 40) dX12_sum_48 (by decide) fl12_288 rfl (rfl) ?_
        have g46 := RG.s hR 40
        refine tm_istore (L' := [(4, .int (iI (σ.1 40))), (3, .int (iI (σ.1 39))), (2, .int (iI 1)), (1, .int (iI a)), (0, .ref b)]) dX12_sum_51 (by decide) rfl ?_
        refine tm_aload_n dX12_sum_53 rfl 4 rfl ?_
        refine tm_callV (M' := m_X12_advance) (As := []) (rest := []) dX12_sum_54 ok_X12_advance im_X12_advance se_X12_advance ml12_265 np_X12_advance rfl rfl (Nat.le_of_ble_eq_true rfl) (Nat.le_of_ble_eq_true rfl) rfl (c_X12_advance (d + 4 * lv + 5) (σ := σ)  hR (by have z := htr.2.2.1.1; omega)) (fun r47 σ48 hp => ?_)
        obtain ⟨rfl, f50, f51, f52, f53, f54⟩ := hp
        show Tm _ _ 57 b σ48 [(4, .int (iI (σ.1 40))), (3, .int (iI (σ.1 39))), (2, .int (iI 1)), (1, .int (iI a)), (0, .ref b)] [] _
        have gt := hgt
        unfold GT at gt
        have mm1 : σ.1 19 < σ48.1 19 := by omega
        have tr4 := htr.adv f51 f53 f54 (by omega) (fun q => g8y (by first | exact Or.inl (i43.mp (by omega)) | exact Or.inr (i45.mp (by omega))) f50)
        have e28a : σ48.1 28 = σ.1 28 := f51.1 28 (by decide)
        have m34a : σ48.1 34 = σ.1 34 := f51.1 34 (by decide)
        refine tm_aload_n dX12_sum_57 rfl 4 rfl ?_
        refine tm_callV (M' := m_X12_product) (As := []) (rest := []) dX12_sum_58 ok_X12_product im_X12_product se_X12_product ml12_314 np_X12_product rfl rfl (Nat.le_of_ble_eq_true rfl) (Nat.le_of_ble_eq_true rfl) rfl (c_X12_product (d) (σ := σ48)  hce f52 tr4.2.2.1 tr4.nn (by rw [e28a, h28s]; exact hl28)) (fun r55 σ56 hp => ?_)
        obtain ⟨v57, rfl, f58, f59, f60, f61, f62, f63⟩ := hp
        show Tm _ _ 61 b σ56 [(4, .int (iI (σ.1 40))), (3, .int (iI (σ.1 39))), (2, .int (iI 1)), (1, .int (iI a)), (0, .ref b)] [.int (iI v57)] _
        have xp0 := f58
        have xp1 := f59
        have xp2 := f60
        have xp3 := f61
        have xp4 := f62
        have xp5 := f63
        refine tm_istore_n (L' := [(1, .int (iI v57)), (4, .int (iI (σ.1 40))), (3, .int (iI (σ.1 39))), (2, .int (iI 1)), (0, .ref b)]) dX12_sum_61 rfl (by decide) rfl ?_
        refine tm_iload_n dX12_sum_62 rfl 0 rfl ?_
        refine tm_if_eq (tgt := 82) dX12_sum_63 (by decide) ⟨by omega, by omega⟩ (fun h64 => ?_) (fun h64 => ?_)
        · refine tm_goto (tgt := 5) dX12_sum_82 (by decide) ?_
          refine tm_iload_n dX12_sum_5 rfl 0 rfl ?_
          refine tm_if_eq (tgt := 85) dX12_sum_6 (by decide) ⟨by omega, by omega⟩ (fun h65 => ?_) (fun h65 => ?_)
          · exact tm_sub [0, 4] rfl (hx_85 (v57) σ56 (((Fr.rfl.trans (Fr.sub hF (by decide) (by decide) (by decide))).trans (Fr.sub f51 (by decide) (by decide) (by decide))).trans (Fr.sub f59 (by decide) (by decide) (by decide))) f60 (by omega) (fun q => absurd q (by omega)) (fun _ => (tr4.fail xp3 (xp5.2 (by omega)))))
          · exact absurd h65 (by omega)
        · have tr5 := tr4.sub xp3 (xp4 (by omega)) (xp5.1 (by omega))
          have gt2 := (xp4 (by omega)).2.2.1
          have mm2 := (xp4 (by omega)).2.1.1
          have m34b := xp3.2.2.2.2.2.1
          have e28b := (xp4 (by omega)).2.2.2.2
          have rdj := tr5.2.2.1
          unfold RDY at rdj
          have gt := gt2
          refine tm_aload_n dX12_sum_66 rfl 4 rfl ?_
          refine tm_iload_n dX12_sum_67 rfl 3 rfl ?_
          refine tm_iload_n dX12_sum_68 rfl 2 rfl ?_
          refine tm_iload dX12_sum_69 1 rfl ?_
          refine tm_aload_n dX12_sum_71 rfl 4 rfl ?_
          refine tm_getS (k := 39) (t := σ56.1 39) dX12_sum_72 (by decide) fl12_285 rfl (rfl) ?_
          have g66 := RG.s f60 39
          refine tm_aload_n dX12_sum_75 rfl 4 rfl ?_
          refine tm_getS (k := 40) (t := σ56.1 40) dX12_sum_76 (by decide) fl12_288 rfl (rfl) ?_
          have g67 := RG.s f60 40
          refine tm_callV (M' := m_X12_joins) (As := [.int (iI 1), .int (iI (σ.1 39)), .int (iI (σ.1 40)), .int (iI (σ56.1 39)), .int (iI (σ56.1 40))]) (rest := []) dX12_sum_79 ok_X12_joins im_X12_joins se_X12_joins ml12_310 np_X12_joins rfl rfl (Nat.le_of_ble_eq_true rfl) (Nat.le_of_ble_eq_true rfl) rfl (c_X12_joins (d + 4 * lv + 7) (σ := σ56) (k := 1) (ak := σ.1 39) (a := σ.1 40) (bk := σ56.1 39) (c := σ56.1 40) f60 (by omega) (by decide) (by omega) (by have z := gt; unfold GT at z; omega) (by omega) (by omega) (by omega)) (fun r68 σ69 hp => ?_)
          obtain ⟨rfl, f71, f72, f73, f74, f75⟩ := hp
          show Tm _ _ 82 b σ69 [(1, .int (iI v57)), (4, .int (iI (σ.1 40))), (3, .int (iI (σ.1 39))), (2, .int (iI 1)), (0, .ref b)] [] _
          have tr6 := tr5.join f71 ⟨f73.1, f73.2.1⟩ f74 f75 (by decide) hrd
          have gtj : GT σ69 := by unfold GT; rw [f73.2.2.1, f73.2.2.2, f73.1]; exact ⟨Or.inr rfl, fun _ => by omega⟩
          have mm3 : σ69.1 19 = _ := f71.1 19 (by decide)
          have e28c : σ69.1 28 = σ0.1 28 := by rw [f71.1 28 (by decide), e28b, e28a]; exact h28s
          refine tm_goto (tgt := 5) dX12_sum_82 (by decide) ?_
          refine tm_iload_n dX12_sum_5 rfl 0 rfl ?_
          refine tm_if_eq (tgt := 85) dX12_sum_6 (by decide) ⟨by omega, by omega⟩ (fun h76 => ?_) (fun h76 => ?_)
          · exact absurd h76 (by omega)
          · exact tm_sub [0, 4] rfl (ih _ (by omega) (v57) σ69 ((((Fr.rfl.trans (Fr.sub hF (by decide) (by decide) (by decide))).trans (Fr.sub f51 (by decide) (by decide) (by decide))).trans (Fr.sub f59 (by decide) (by decide) (by decide))).trans (Fr.sub f71 (by decide) (by decide) (by decide))) f72 (by omega) (tr6.le (by decide)) gtj e28c rfl)
    · refine tm_aload_n dX12_sum_18 rfl 1 rfl ?_
      refine tm_bipush dX12_sum_19 (by decide) ?_
      refine tm_callV (M' := m_X12_isSign) (As := [.int (iI 45)]) (rest := []) dX12_sum_21 ok_X12_isSign im_X12_isSign se_X12_isSign ml12_258 np_X12_isSign rfl rfl (Nat.le_of_ble_eq_true rfl) (Nat.le_of_ble_eq_true rfl) rfl (c_X12_isSign (d + 4 * lv + 9) (σ := σ) (c := 45) hR (by omega)) (fun r77 σ78 hp => ?_)
      obtain ⟨v79, rfl, rfl, f80, f81⟩ := hp
      show Tm _ _ 24 b σ [(1, .int (iI a)), (0, .ref b)] [.int (iI v79)] _
      have i45 := f81
      refine tm_if_eq (tgt := 85) dX12_sum_24 (by decide) ⟨by omega, by omega⟩ (fun h82 => ?_) (fun h82 => ?_)
      · exact tm_sub [0, 1] rfl (hx_85 (a) σ (Fr.rfl.trans (Fr.sub hF (by decide) (by decide) (by decide))) hR (by omega) (fun _ => ⟨htr.nxt (fun q => g8n (fun z => absurd (i43.mpr z) (by omega)) (fun z => absurd (i45.mpr z) (by omega))), hgt, h28s⟩) (fun q => absurd q (by omega)))
      · refine tm_aload_n dX12_sum_27 rfl 1 rfl ?_
        refine tm_bipush dX12_sum_28 (by decide) ?_
        refine tm_callV (M' := m_X12_isSign) (As := [.int (iI 43)]) (rest := []) dX12_sum_30 ok_X12_isSign im_X12_isSign se_X12_isSign ml12_258 np_X12_isSign rfl rfl (Nat.le_of_ble_eq_true rfl) (Nat.le_of_ble_eq_true rfl) rfl (c_X12_isSign (d + 4 * lv + 9) (σ := σ) (c := 43) hR (by omega)) (fun r83 σ84 hp => ?_)
        obtain ⟨v85, rfl, rfl, f86, f87⟩ := hp
        show Tm _ _ 33 b σ [(1, .int (iI a)), (0, .ref b)] [.int (iI v85)] _
        have i43b := f87
        refine tm_if_eq (tgt := 40) dX12_sum_33 (by decide) ⟨by omega, by omega⟩ (fun h88 => ?_) (fun h88 => ?_)
        · refine tm_iconst dX12_sum_40 ?_
          refine tm_istore_n (L' := [(2, .int (iI 2)), (1, .int (iI a)), (0, .ref b)]) dX12_sum_41 rfl (by decide) rfl ?_
          refine tm_aload_n dX12_sum_42 rfl 2 rfl ?_
          refine tm_getS (k := 39) (t := σ.1 39) dX12_sum_43 (by decide) fl12_285 rfl (rfl) ?_
          have g89 := RG.s hR 39
          refine tm_istore_n (L' := [(3, .int (iI (σ.1 39))), (2, .int (iI 2)), (1, .int (iI a)), (0, .ref b)]) dX12_sum_46 rfl (by decide) rfl ?_
          refine tm_aload_n dX12_sum_47 rfl 3 rfl ?_
          refine tm_getS (k := 40) (t := σ.1 40) dX12_sum_48 (by decide) fl12_288 rfl (rfl) ?_
          have g90 := RG.s hR 40
          refine tm_istore (L' := [(4, .int (iI (σ.1 40))), (3, .int (iI (σ.1 39))), (2, .int (iI 2)), (1, .int (iI a)), (0, .ref b)]) dX12_sum_51 (by decide) rfl ?_
          refine tm_aload_n dX12_sum_53 rfl 4 rfl ?_
          refine tm_callV (M' := m_X12_advance) (As := []) (rest := []) dX12_sum_54 ok_X12_advance im_X12_advance se_X12_advance ml12_265 np_X12_advance rfl rfl (Nat.le_of_ble_eq_true rfl) (Nat.le_of_ble_eq_true rfl) rfl (c_X12_advance (d + 4 * lv + 5) (σ := σ)  hR (by have z := htr.2.2.1.1; omega)) (fun r91 σ92 hp => ?_)
          obtain ⟨rfl, f94, f95, f96, f97, f98⟩ := hp
          show Tm _ _ 57 b σ92 [(4, .int (iI (σ.1 40))), (3, .int (iI (σ.1 39))), (2, .int (iI 2)), (1, .int (iI a)), (0, .ref b)] [] _
          have gt := hgt
          unfold GT at gt
          have mm1 : σ.1 19 < σ92.1 19 := by omega
          have tr7 := htr.adv f95 f97 f98 (by omega) (fun q => g8y (by first | exact Or.inl (i43.mp (by omega)) | exact Or.inr (i45.mp (by omega))) f94)
          have e28a : σ92.1 28 = σ.1 28 := f95.1 28 (by decide)
          have m34a : σ92.1 34 = σ.1 34 := f95.1 34 (by decide)
          refine tm_aload_n dX12_sum_57 rfl 4 rfl ?_
          refine tm_callV (M' := m_X12_product) (As := []) (rest := []) dX12_sum_58 ok_X12_product im_X12_product se_X12_product ml12_314 np_X12_product rfl rfl (Nat.le_of_ble_eq_true rfl) (Nat.le_of_ble_eq_true rfl) rfl (c_X12_product (d) (σ := σ92)  hce f96 tr7.2.2.1 tr7.nn (by rw [e28a, h28s]; exact hl28)) (fun r99 σ100 hp => ?_)
          obtain ⟨v101, rfl, f102, f103, f104, f105, f106, f107⟩ := hp
          show Tm _ _ 61 b σ100 [(4, .int (iI (σ.1 40))), (3, .int (iI (σ.1 39))), (2, .int (iI 2)), (1, .int (iI a)), (0, .ref b)] [.int (iI v101)] _
          have xp0 := f102
          have xp1 := f103
          have xp2 := f104
          have xp3 := f105
          have xp4 := f106
          have xp5 := f107
          refine tm_istore_n (L' := [(1, .int (iI v101)), (4, .int (iI (σ.1 40))), (3, .int (iI (σ.1 39))), (2, .int (iI 2)), (0, .ref b)]) dX12_sum_61 rfl (by decide) rfl ?_
          refine tm_iload_n dX12_sum_62 rfl 0 rfl ?_
          refine tm_if_eq (tgt := 82) dX12_sum_63 (by decide) ⟨by omega, by omega⟩ (fun h108 => ?_) (fun h108 => ?_)
          · refine tm_goto (tgt := 5) dX12_sum_82 (by decide) ?_
            refine tm_iload_n dX12_sum_5 rfl 0 rfl ?_
            refine tm_if_eq (tgt := 85) dX12_sum_6 (by decide) ⟨by omega, by omega⟩ (fun h109 => ?_) (fun h109 => ?_)
            · exact tm_sub [0, 4] rfl (hx_85 (v101) σ100 (((Fr.rfl.trans (Fr.sub hF (by decide) (by decide) (by decide))).trans (Fr.sub f95 (by decide) (by decide) (by decide))).trans (Fr.sub f103 (by decide) (by decide) (by decide))) f104 (by omega) (fun q => absurd q (by omega)) (fun _ => (tr7.fail xp3 (xp5.2 (by omega)))))
            · exact absurd h109 (by omega)
          · have tr8 := tr7.sub xp3 (xp4 (by omega)) (xp5.1 (by omega))
            have gt2 := (xp4 (by omega)).2.2.1
            have mm2 := (xp4 (by omega)).2.1.1
            have m34b := xp3.2.2.2.2.2.1
            have e28b := (xp4 (by omega)).2.2.2.2
            have rdj := tr8.2.2.1
            unfold RDY at rdj
            have gt := gt2
            refine tm_aload_n dX12_sum_66 rfl 4 rfl ?_
            refine tm_iload_n dX12_sum_67 rfl 3 rfl ?_
            refine tm_iload_n dX12_sum_68 rfl 2 rfl ?_
            refine tm_iload dX12_sum_69 1 rfl ?_
            refine tm_aload_n dX12_sum_71 rfl 4 rfl ?_
            refine tm_getS (k := 39) (t := σ100.1 39) dX12_sum_72 (by decide) fl12_285 rfl (rfl) ?_
            have g110 := RG.s f104 39
            refine tm_aload_n dX12_sum_75 rfl 4 rfl ?_
            refine tm_getS (k := 40) (t := σ100.1 40) dX12_sum_76 (by decide) fl12_288 rfl (rfl) ?_
            have g111 := RG.s f104 40
            refine tm_callV (M' := m_X12_joins) (As := [.int (iI 2), .int (iI (σ.1 39)), .int (iI (σ.1 40)), .int (iI (σ100.1 39)), .int (iI (σ100.1 40))]) (rest := []) dX12_sum_79 ok_X12_joins im_X12_joins se_X12_joins ml12_310 np_X12_joins rfl rfl (Nat.le_of_ble_eq_true rfl) (Nat.le_of_ble_eq_true rfl) rfl (c_X12_joins (d + 4 * lv + 7) (σ := σ100) (k := 2) (ak := σ.1 39) (a := σ.1 40) (bk := σ100.1 39) (c := σ100.1 40) f104 (by omega) (by decide) (by omega) (by have z := gt; unfold GT at z; omega) (by omega) (by omega) (by omega)) (fun r112 σ113 hp => ?_)
            obtain ⟨rfl, f115, f116, f117, f118, f119⟩ := hp
            show Tm _ _ 82 b σ113 [(1, .int (iI v101)), (4, .int (iI (σ.1 40))), (3, .int (iI (σ.1 39))), (2, .int (iI 2)), (0, .ref b)] [] _
            have tr9 := tr8.join f115 ⟨f117.1, f117.2.1⟩ f118 f119 (by decide) hrd
            have gtj : GT σ113 := by unfold GT; rw [f117.2.2.1, f117.2.2.2, f117.1]; exact ⟨Or.inr rfl, fun _ => by omega⟩
            have mm3 : σ113.1 19 = _ := f115.1 19 (by decide)
            have e28c : σ113.1 28 = σ0.1 28 := by rw [f115.1 28 (by decide), e28b, e28a]; exact h28s
            refine tm_goto (tgt := 5) dX12_sum_82 (by decide) ?_
            refine tm_iload_n dX12_sum_5 rfl 0 rfl ?_
            refine tm_if_eq (tgt := 85) dX12_sum_6 (by decide) ⟨by omega, by omega⟩ (fun h120 => ?_) (fun h120 => ?_)
            · exact absurd h120 (by omega)
            · exact tm_sub [0, 4] rfl (ih _ (by omega) (v101) σ113 ((((Fr.rfl.trans (Fr.sub hF (by decide) (by decide) (by decide))).trans (Fr.sub f95 (by decide) (by decide) (by decide))).trans (Fr.sub f103 (by decide) (by decide) (by decide))).trans (Fr.sub f115 (by decide) (by decide) (by decide))) f116 (by omega) (tr9.le (by decide)) gtj e28c rfl)
        · refine tm_iconst dX12_sum_36 ?_
          refine tm_goto (tgt := 41) dX12_sum_37 (by decide) ?_
          refine tm_istore_n (L' := [(2, .int (iI 1)), (1, .int (iI a)), (0, .ref b)]) dX12_sum_41 rfl (by decide) rfl ?_
          refine tm_aload_n dX12_sum_42 rfl 2 rfl ?_
          refine tm_getS (k := 39) (t := σ.1 39) dX12_sum_43 (by decide) fl12_285 rfl (rfl) ?_
          have g121 := RG.s hR 39
          refine tm_istore_n (L' := [(3, .int (iI (σ.1 39))), (2, .int (iI 1)), (1, .int (iI a)), (0, .ref b)]) dX12_sum_46 rfl (by decide) rfl ?_
          refine tm_aload_n dX12_sum_47 rfl 3 rfl ?_
          refine tm_getS (k := 40) (t := σ.1 40) dX12_sum_48 (by decide) fl12_288 rfl (rfl) ?_
          have g122 := RG.s hR 40
          refine tm_istore (L' := [(4, .int (iI (σ.1 40))), (3, .int (iI (σ.1 39))), (2, .int (iI 1)), (1, .int (iI a)), (0, .ref b)]) dX12_sum_51 (by decide) rfl ?_
          refine tm_aload_n dX12_sum_53 rfl 4 rfl ?_
          refine tm_callV (M' := m_X12_advance) (As := []) (rest := []) dX12_sum_54 ok_X12_advance im_X12_advance se_X12_advance ml12_265 np_X12_advance rfl rfl (Nat.le_of_ble_eq_true rfl) (Nat.le_of_ble_eq_true rfl) rfl (c_X12_advance (d + 4 * lv + 5) (σ := σ)  hR (by have z := htr.2.2.1.1; omega)) (fun r123 σ124 hp => ?_)
          obtain ⟨rfl, f126, f127, f128, f129, f130⟩ := hp
          show Tm _ _ 57 b σ124 [(4, .int (iI (σ.1 40))), (3, .int (iI (σ.1 39))), (2, .int (iI 1)), (1, .int (iI a)), (0, .ref b)] [] _
          have gt := hgt
          unfold GT at gt
          have mm1 : σ.1 19 < σ124.1 19 := by omega
          have tr10 := htr.adv f127 f129 f130 (by omega) (fun q => g8y (by first | exact Or.inl (i43.mp (by omega)) | exact Or.inr (i45.mp (by omega))) f126)
          have e28a : σ124.1 28 = σ.1 28 := f127.1 28 (by decide)
          have m34a : σ124.1 34 = σ.1 34 := f127.1 34 (by decide)
          refine tm_aload_n dX12_sum_57 rfl 4 rfl ?_
          refine tm_callV (M' := m_X12_product) (As := []) (rest := []) dX12_sum_58 ok_X12_product im_X12_product se_X12_product ml12_314 np_X12_product rfl rfl (Nat.le_of_ble_eq_true rfl) (Nat.le_of_ble_eq_true rfl) rfl (c_X12_product (d) (σ := σ124)  hce f128 tr10.2.2.1 tr10.nn (by rw [e28a, h28s]; exact hl28)) (fun r131 σ132 hp => ?_)
          obtain ⟨v133, rfl, f134, f135, f136, f137, f138, f139⟩ := hp
          show Tm _ _ 61 b σ132 [(4, .int (iI (σ.1 40))), (3, .int (iI (σ.1 39))), (2, .int (iI 1)), (1, .int (iI a)), (0, .ref b)] [.int (iI v133)] _
          have xp0 := f134
          have xp1 := f135
          have xp2 := f136
          have xp3 := f137
          have xp4 := f138
          have xp5 := f139
          refine tm_istore_n (L' := [(1, .int (iI v133)), (4, .int (iI (σ.1 40))), (3, .int (iI (σ.1 39))), (2, .int (iI 1)), (0, .ref b)]) dX12_sum_61 rfl (by decide) rfl ?_
          refine tm_iload_n dX12_sum_62 rfl 0 rfl ?_
          refine tm_if_eq (tgt := 82) dX12_sum_63 (by decide) ⟨by omega, by omega⟩ (fun h140 => ?_) (fun h140 => ?_)
          · refine tm_goto (tgt := 5) dX12_sum_82 (by decide) ?_
            refine tm_iload_n dX12_sum_5 rfl 0 rfl ?_
            refine tm_if_eq (tgt := 85) dX12_sum_6 (by decide) ⟨by omega, by omega⟩ (fun h141 => ?_) (fun h141 => ?_)
            · exact tm_sub [0, 4] rfl (hx_85 (v133) σ132 (((Fr.rfl.trans (Fr.sub hF (by decide) (by decide) (by decide))).trans (Fr.sub f127 (by decide) (by decide) (by decide))).trans (Fr.sub f135 (by decide) (by decide) (by decide))) f136 (by omega) (fun q => absurd q (by omega)) (fun _ => (tr10.fail xp3 (xp5.2 (by omega)))))
            · exact absurd h141 (by omega)
          · have tr11 := tr10.sub xp3 (xp4 (by omega)) (xp5.1 (by omega))
            have gt2 := (xp4 (by omega)).2.2.1
            have mm2 := (xp4 (by omega)).2.1.1
            have m34b := xp3.2.2.2.2.2.1
            have e28b := (xp4 (by omega)).2.2.2.2
            have rdj := tr11.2.2.1
            unfold RDY at rdj
            have gt := gt2
            refine tm_aload_n dX12_sum_66 rfl 4 rfl ?_
            refine tm_iload_n dX12_sum_67 rfl 3 rfl ?_
            refine tm_iload_n dX12_sum_68 rfl 2 rfl ?_
            refine tm_iload dX12_sum_69 1 rfl ?_
            refine tm_aload_n dX12_sum_71 rfl 4 rfl ?_
            refine tm_getS (k := 39) (t := σ132.1 39) dX12_sum_72 (by decide) fl12_285 rfl (rfl) ?_
            have g142 := RG.s f136 39
            refine tm_aload_n dX12_sum_75 rfl 4 rfl ?_
            refine tm_getS (k := 40) (t := σ132.1 40) dX12_sum_76 (by decide) fl12_288 rfl (rfl) ?_
            have g143 := RG.s f136 40
            refine tm_callV (M' := m_X12_joins) (As := [.int (iI 1), .int (iI (σ.1 39)), .int (iI (σ.1 40)), .int (iI (σ132.1 39)), .int (iI (σ132.1 40))]) (rest := []) dX12_sum_79 ok_X12_joins im_X12_joins se_X12_joins ml12_310 np_X12_joins rfl rfl (Nat.le_of_ble_eq_true rfl) (Nat.le_of_ble_eq_true rfl) rfl (c_X12_joins (d + 4 * lv + 7) (σ := σ132) (k := 1) (ak := σ.1 39) (a := σ.1 40) (bk := σ132.1 39) (c := σ132.1 40) f136 (by omega) (by decide) (by omega) (by have z := gt; unfold GT at z; omega) (by omega) (by omega) (by omega)) (fun r144 σ145 hp => ?_)
            obtain ⟨rfl, f147, f148, f149, f150, f151⟩ := hp
            show Tm _ _ 82 b σ145 [(1, .int (iI v133)), (4, .int (iI (σ.1 40))), (3, .int (iI (σ.1 39))), (2, .int (iI 1)), (0, .ref b)] [] _
            have tr12 := tr11.join f147 ⟨f149.1, f149.2.1⟩ f150 f151 (by decide) hrd
            have gtj : GT σ145 := by unfold GT; rw [f149.2.2.1, f149.2.2.2, f149.1]; exact ⟨Or.inr rfl, fun _ => by omega⟩
            have mm3 : σ145.1 19 = _ := f147.1 19 (by decide)
            have e28c : σ145.1 28 = σ0.1 28 := by rw [f147.1 28 (by decide), e28b, e28a]; exact h28s
            refine tm_goto (tgt := 5) dX12_sum_82 (by decide) ?_
            refine tm_iload_n dX12_sum_5 rfl 0 rfl ?_
            refine tm_if_eq (tgt := 85) dX12_sum_6 (by decide) ⟨by omega, by omega⟩ (fun h152 => ?_) (fun h152 => ?_)
            · exact absurd h152 (by omega)
            · exact tm_sub [0, 4] rfl (ih _ (by omega) (v133) σ145 ((((Fr.rfl.trans (Fr.sub hF (by decide) (by decide) (by decide))).trans (Fr.sub f127 (by decide) (by decide) (by decide))).trans (Fr.sub f135 (by decide) (by decide) (by decide))).trans (Fr.sub f147 (by decide) (by decide) (by decide))) f148 (by omega) (tr12.le (by decide)) gtj e28c rfl)
theorem dX12_sum_0 : decode cX12_sum 0 = .ok (.aload_n 0, 1) := by decide +kernel
theorem dX12_sum_1 : decode cX12_sum 1 = .ok (.invokevirtual 314, 3) := by decide +kernel
theorem dX12_sum_4 : decode cX12_sum 4 = .ok (.istore_n 1, 1) := by decide +kernel
theorem dX12_sum_85 : decode cX12_sum 85 = .ok (.iload_n 1, 1) := by decide +kernel
theorem dX12_sum_86 : decode cX12_sum 86 = .ok (.ireturn, 1) := by decide +kernel
set_option maxHeartbeats 4000000 in
set_option maxRecDepth 20000 in
theorem c_X12_sum (d : Nat) {b : Nat} {σ : MS} {lv : Nat} (hce : ∀ (d : Nat) {b : Nat} {σ : MS} (hR : RG σ) (hrd : RDY σ) (hnn : NN σ) (h28 : σ.1 28 = 8 - (lv : Int)), Tm (d + 4 * lv + 8) m_X12_expression 0 b σ [(0, .ref b)] [] (fun ro σ2 => ∃ v : Int, ro = some (.int (iI v)) ∧ ((v = 0 ∨ v = 1)) ∧ (Fr [19, 20, 22, 23, 26, 27, 28, 32, 34, 39, 40] [3, 4, 5, 6, 7, 8, 35] [24, 38] σ σ2) ∧ (RG σ2) ∧ (PBF σ σ2) ∧ (v = 1 → EXS σ σ2) ∧ (PRS 2 v σ σ2))) (hR : RG σ) (hrd : RDY σ) (hnn : NN σ) (h28 : σ.1 28 = 8 - (lv : Int)) : Tm (d + 4 * lv + 4 * lv + 11) m_X12_sum 0 b σ [(0, .ref b)] [] (fun ro σ2 => ∃ v : Int, ro = some (.int (iI v)) ∧ ((v = 0 ∨ v = 1)) ∧ (Fr [19, 20, 22, 23, 26, 27, 28, 32, 34, 39, 40] [3, 4, 5, 6, 7, 8, 35] [24, 38] σ σ2) ∧ (RG σ2) ∧ (PBF σ σ2) ∧ (v = 1 → EXS σ σ2) ∧ (PRS 3 v σ σ2)) := by
  have tr0 : TR 3 0 σ [3] σ := TR.start hrd hnn
  have tr1 := tr0.nxt (fun q => g3)
  refine tm_aload_n dX12_sum_0 rfl 0 rfl ?_
  refine tm_callV (M' := m_X12_product) (As := []) (rest := []) dX12_sum_1 ok_X12_product im_X12_product se_X12_product ml12_314 np_X12_product rfl rfl (Nat.le_of_ble_eq_true rfl) (Nat.le_of_ble_eq_true rfl) rfl (c_X12_product (d) (σ := σ)  hce hR hrd hnn h28) (fun r1 σ2 hp => ?_)
  obtain ⟨v3, rfl, f4, f5, f6, f7, f8, f9⟩ := hp
  show Tm _ _ 4 b σ2 [(0, .ref b)] [.int (iI v3)] _
  have xp0 := f4
  have xp1 := f5
  have xp2 := f6
  have xp3 := f7
  have xp4 := f8
  have xp5 := f9
  refine tm_istore_n (L' := [(1, .int (iI v3)), (0, .ref b)]) dX12_sum_4 rfl (by decide) rfl ?_
  refine tm_iload_n dX12_sum_5 rfl 0 rfl ?_
  refine tm_if_eq (tgt := 85) dX12_sum_6 (by decide) ⟨by omega, by omega⟩ (fun h10 => ?_) (fun h10 => ?_)
  · refine tm_iload_n dX12_sum_85 rfl 0 rfl ?_
    exact tm_zret (v := v3) rfl (by omega) dX12_sum_86 (⟨_, rfl, by omega, (Fr.rfl.trans (Fr.sub f5 (by decide) (by decide) (by decide))), f6, (tr1.fail xp3 (xp5.2 (by omega))).1, fun q => absurd q (by omega), by rw [show v3 = 0 by omega]; exact PRS.no (tr1.fail xp3 (xp5.2 (by omega))).2⟩)
  · have tr2 := tr1.sub xp3 (xp4 (by omega)) (xp5.1 (by omega))
    have e28z := (xp4 (by omega)).2.2.2.2
    refine tm_sub [0, 1] rfl (l_sum (d) (σ0 := σ2) hce f6 tr2.2.2.1 ((xp4 (by omega)).2.2.2.2.trans h28) (fun a18 σ19 F13 R14 f15 f16 f17 => ?_) _ (v3) σ2 Fr.rfl f6 (by omega) (TR.start (xp4 (by omega)).1 xp3.2.2.1) (xp4 (by omega)).2.2.1 rfl rfl)
    show Tm _ _ 85 b σ19 [(1, .int (iI a18)), (0, .ref b)] [] _
    refine tm_iload_n dX12_sum_85 rfl 0 rfl ?_
    exact tm_zret (v := a18) rfl (by omega) dX12_sum_86 (⟨_, rfl, by omega, ((Fr.rfl.trans (Fr.sub f5 (by decide) (by decide) (by decide))).trans (Fr.sub F13 (by decide) (by decide) (by decide))), R14, (by rcases f15 with z | z; exact tr2.1.trans (f17 z).1; exact tr2.1.trans (f16 z).1.1), fun z => (tr2.cat (f16 z).1).exs (by decide) (f16 z).2.1 ((f16 z).2.2.trans e28z), ⟨fun z q => (tr2.cat (f16 z).1).2.2.2.2 q, fun z q => (tr2.2.2.2.2 q).fail (((f17 z).2 q).more [])⟩⟩)
