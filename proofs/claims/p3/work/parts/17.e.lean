theorem ml12_317 : Cond.methodLink RX12 317 yX12_signed ∈ pWW := pw8 (List.mem_of_getElem? (i := 229) rfl) rfl
theorem dX12_product_9 : decode cX12_product 9 = .ok (.aload_n 0, 1) := by decide +kernel
theorem dX12_product_10 : decode cX12_product 10 = .ok (.bipush 42, 2) := by decide +kernel
theorem dX12_product_12 : decode cX12_product 12 = .ok (.invokevirtual 258, 3) := by decide +kernel
theorem dX12_product_15 : decode cX12_product 15 = .ok (.ifCond .eq 44, 3) := by decide +kernel
theorem dX12_product_18 : decode cX12_product 18 = .ok (.aload_n 0, 1) := by decide +kernel
theorem dX12_product_19 : decode cX12_product 19 = .ok (.getfield 285, 3) := by decide +kernel
theorem dX12_product_22 : decode cX12_product 22 = .ok (.istore_n 2, 1) := by decide +kernel
theorem dX12_product_23 : decode cX12_product 23 = .ok (.aload_n 0, 1) := by decide +kernel
theorem dX12_product_24 : decode cX12_product 24 = .ok (.getfield 288, 3) := by decide +kernel
theorem dX12_product_27 : decode cX12_product 27 = .ok (.istore_n 3, 1) := by decide +kernel
theorem dX12_product_28 : decode cX12_product 28 = .ok (.aload_n 0, 1) := by decide +kernel
theorem dX12_product_29 : decode cX12_product 29 = .ok (.invokevirtual 265, 3) := by decide +kernel
theorem dX12_product_32 : decode cX12_product 32 = .ok (.aload_n 0, 1) := by decide +kernel
theorem dX12_product_33 : decode cX12_product 33 = .ok (.invokevirtual 317, 3) := by decide +kernel
theorem dX12_product_36 : decode cX12_product 36 = .ok (.istore_n 1, 1) := by decide +kernel
theorem dX12_product_37 : decode cX12_product 37 = .ok (.iload_n 1, 1) := by decide +kernel
theorem dX12_product_38 : decode cX12_product 38 = .ok (.ifCond .eq 18, 3) := by decide +kernel
theorem dX12_product_56 : decode cX12_product 56 = .ok (.goto (-51), 3) := by decide +kernel
theorem dX12_product_5 : decode cX12_product 5 = .ok (.iload_n 1, 1) := by decide +kernel
theorem dX12_product_6 : decode cX12_product 6 = .ok (.ifCond .eq 53, 3) := by decide +kernel
theorem dX12_product_41 : decode cX12_product 41 = .ok (.aload_n 0, 1) := by decide +kernel
theorem dX12_product_42 : decode cX12_product 42 = .ok (.iconst 3, 1) := by decide +kernel
theorem dX12_product_43 : decode cX12_product 43 = .ok (.iload_n 2, 1) := by decide +kernel
theorem dX12_product_44 : decode cX12_product 44 = .ok (.iload_n 3, 1) := by decide +kernel
theorem dX12_product_45 : decode cX12_product 45 = .ok (.aload_n 0, 1) := by decide +kernel
theorem dX12_product_46 : decode cX12_product 46 = .ok (.getfield 285, 3) := by decide +kernel
theorem dX12_product_49 : decode cX12_product 49 = .ok (.aload_n 0, 1) := by decide +kernel
theorem dX12_product_50 : decode cX12_product 50 = .ok (.getfield 288, 3) := by decide +kernel
theorem dX12_product_53 : decode cX12_product 53 = .ok (.invokevirtual 310, 3) := by decide +kernel
set_option maxHeartbeats 4000000 in
set_option maxRecDepth 20000 in
theorem l_prod (d : Nat) {b : Nat} {σ0 : MS} {lv : Nat} {post : Option Value → MS → Prop} (hce : ∀ (d : Nat) {b : Nat} {σ : MS} (hR : RG σ) (hrd : RDY σ) (hnn : NN σ) (h28 : σ.1 28 = 8 - (lv : Int)), Tm (d + 4 * lv + 8) m_X12_expression 0 b σ [(0, .ref b)] [] (fun ro σ2 => ∃ v : Int, ro = some (.int (iI v)) ∧ ((v = 0 ∨ v = 1)) ∧ (Fr [19, 20, 22, 23, 26, 27, 28, 32, 34, 39, 40] [3, 4, 5, 6, 7, 8, 35] [24, 38] σ σ2) ∧ (RG σ2) ∧ (PBF σ σ2) ∧ (v = 1 → EXS σ σ2) ∧ (PRS 2 v σ σ2))) (hR0 : RG σ0) (hrd : RDY σ0) (hl28 : σ0.1 28 = 8 - (lv : Int)) (hx_59 : ∀ (a : Int) (σ : MS) , (Fr [19, 20, 22, 23, 26, 27, 28, 32, 34, 39, 40] [3, 4, 5, 6, 7, 8, 35] [24, 38] σ0 σ) → (RG σ) → (a = 0 ∨ a = 1) → ((a = 1 → TR 9 0 σ0 [] σ ∧ GT σ ∧ σ.1 28 = σ0.1 28)) → ((a = 0 → PBF σ0 σ ∧ ∀ q, GOF [9] σ0 q)) → Tm (d + 4 * lv + 10) m_X12_product 59 b σ [(1, .int (iI a)), (0, .ref b)] [] post) : ∀ (n : Nat) (a : Int) (σ : MS) , (Fr [19, 20, 22, 23, 26, 27, 28, 32, 34, 39, 40] [3, 4, 5, 6, 7, 8, 35] [24, 38] σ0 σ) → (RG σ) → (a = 1) → (TR 9 0 σ0 [9] σ) → (GT σ) → (σ.1 28 = σ0.1 28) → (1300 - σ.1 19).toNat = n → Tm (d + 4 * lv + 10) m_X12_product 9 b σ [(1, .int (iI a)), (0, .ref b)] [] post := by
  intro n
  induction n using Nat.strongRecOn with
  | _ n ih =>
    intro a σ hF hR h0 htr hgt h28s hm
    have tok0 := htr.2.2.1.1.1
    have tok2 := htr.2.2.1.1.2.1
    refine tm_aload_n dX12_product_9 rfl 1 rfl ?_
    refine tm_bipush dX12_product_10 (by decide) ?_
    refine tm_callV (M' := m_X12_isSign) (As := [.int (iI 42)]) (rest := []) dX12_product_12 ok_X12_isSign im_X12_isSign se_X12_isSign ml12_258 np_X12_isSign rfl rfl (Nat.le_of_ble_eq_true rfl) (Nat.le_of_ble_eq_true rfl) rfl (c2_X12_isSign (d + 4 * lv + 8) (σ := σ) (c := 42) hR (by omega)) (fun r1 σ2 hp => ?_)
    obtain ⟨v3, rfl, rfl, f4, f5, f6⟩ := hp
    show Tm _ _ 15 b σ [(1, .int (iI a)), (0, .ref b)] [.int (iI v3)] _
    have i42 := f5
    have n42_ := f6
    refine tm_if_eq (tgt := 59) dX12_product_15 (by decide) ⟨by omega, by omega⟩ (fun h7 => ?_) (fun h7 => ?_)
    · exact tm_sub [0, 1] rfl (hx_59 (a) σ (Fr.rfl.trans (Fr.sub hF (by decide) (by decide) (by decide))) hR (by omega) (fun _ => ⟨htr.nxt (fun q => g9n (n42_ (by omega))), hgt, h28s⟩) (fun q => absurd q (by omega)))
    · refine tm_aload_n dX12_product_18 rfl 1 rfl ?_
      refine tm_getS (k := 39) (t := σ.1 39) dX12_product_19 (by decide) fl12_285 rfl (rfl) ?_
      have g8 := RG.s hR 39
      refine tm_istore_n (L' := [(2, .int (iI (σ.1 39))), (1, .int (iI a)), (0, .ref b)]) dX12_product_22 rfl (by decide) rfl ?_
      refine tm_aload_n dX12_product_23 rfl 2 rfl ?_
      refine tm_getS (k := 40) (t := σ.1 40) dX12_product_24 (by decide) fl12_288 rfl (rfl) ?_
      have g9 := RG.s hR 40
      refine tm_istore_n (L' := [(3, .int (iI (σ.1 40))), (2, .int (iI (σ.1 39))), (1, .int (iI a)), (0, .ref b)]) dX12_product_27 rfl (by decide) rfl ?_
      refine tm_aload_n dX12_product_28 rfl 3 rfl ?_
      refine tm_callV (M' := m_X12_advance) (As := []) (rest := []) dX12_product_29 ok_X12_advance im_X12_advance se_X12_advance ml12_265 np_X12_advance rfl rfl (Nat.le_of_ble_eq_true rfl) (Nat.le_of_ble_eq_true rfl) rfl (c_X12_advance (d + 4 * lv + 4) (σ := σ)  hR (by have z := htr.2.2.1.1.1; omega)) (fun r10 σ11 hp => ?_)
      obtain ⟨rfl, f13, f14, f15, f16, f17⟩ := hp
      show Tm _ _ 32 b σ11 [(3, .int (iI (σ.1 40))), (2, .int (iI (σ.1 39))), (1, .int (iI a)), (0, .ref b)] [] _
      have gt := hgt
      unfold GT at gt
      have mm1 : σ.1 19 < σ11.1 19 := by have z := tok2 (by have z := (i42 (by omega)).1; omega); omega
      clear tok2
      have tr1 := htr.adv f14 f16 f17 (by have z := (i42 (by omega)).1; omega) (fun q => g9y (i42 (by omega)) f13)
      have e28a : σ11.1 28 = σ.1 28 := f14.1 28 (by decide)
      have m34a : σ11.1 34 = σ.1 34 := f14.1 34 (by decide)
      refine tm_aload_n dX12_product_32 rfl 3 rfl ?_
      refine tm_callV (M' := m_X12_signed) (As := []) (rest := []) dX12_product_33 ok_X12_signed im_X12_signed se_X12_signed ml12_317 np_X12_signed rfl rfl (Nat.le_of_ble_eq_true rfl) (Nat.le_of_ble_eq_true rfl) rfl (c_X12_signed (d) (σ := σ11)  hce f15 tr1.2.2.1 tr1.nn (by rw [e28a, h28s]; exact hl28)) (fun r18 σ19 hp => ?_)
      obtain ⟨v20, rfl, f21, f22, f23, f24, f25, f26⟩ := hp
      show Tm _ _ 36 b σ19 [(3, .int (iI (σ.1 40))), (2, .int (iI (σ.1 39))), (1, .int (iI a)), (0, .ref b)] [.int (iI v20)] _
      have xp0 := f21
      have xp1 := f22
      have xp2 := f23
      have xp3 := f24
      have xp4 := f25
      have xp5 := f26
      refine tm_istore_n (L' := [(1, .int (iI v20)), (3, .int (iI (σ.1 40))), (2, .int (iI (σ.1 39))), (0, .ref b)]) dX12_product_36 rfl (by decide) rfl ?_
      refine tm_iload_n dX12_product_37 rfl 0 rfl ?_
      refine tm_if_eq (tgt := 56) dX12_product_38 (by decide) ⟨by omega, by omega⟩ (fun h27 => ?_) (fun h27 => ?_)
      · refine tm_goto (tgt := 5) dX12_product_56 (by decide) ?_
        refine tm_iload_n dX12_product_5 rfl 0 rfl ?_
        refine tm_if_eq (tgt := 59) dX12_product_6 (by decide) ⟨by omega, by omega⟩ (fun h28 => ?_) (fun h28 => ?_)
        · exact tm_sub [0, 3] rfl (hx_59 (v20) σ19 (((Fr.rfl.trans (Fr.sub hF (by decide) (by decide) (by decide))).trans (Fr.sub f14 (by decide) (by decide) (by decide))).trans (Fr.sub f22 (by decide) (by decide) (by decide))) f23 (by omega) (fun q => absurd q (by omega)) (fun _ => (tr1.fail xp3 (xp5.2 (by omega)))))
        · exact absurd h28 (by omega)
      · have tr2 := tr1.sub xp3 (xp4 (by omega)) (xp5.1 (by omega))
        have gt2 := (xp4 (by omega)).2.2.1
        have mm2 := (xp4 (by omega)).2.1.1
        have m34b := xp3.2.2.2.2.2.1
        have e28b := (xp4 (by omega)).2.2.2.2
        have rdj := tr2.2.2.1.2
        have tkj := tr2.2.2.1.1.1
        have gt := gt2
        refine tm_aload_n dX12_product_41 rfl 3 rfl ?_
        refine tm_iconst dX12_product_42 ?_
        refine tm_iload_n dX12_product_43 rfl 2 rfl ?_
        refine tm_iload_n dX12_product_44 rfl 1 rfl ?_
        refine tm_aload_n dX12_product_45 rfl 3 rfl ?_
        refine tm_getS (k := 39) (t := σ19.1 39) dX12_product_46 (by decide) fl12_285 rfl (rfl) ?_
        have g29 := RG.s f23 39
        refine tm_aload_n dX12_product_49 rfl 3 rfl ?_
        refine tm_getS (k := 40) (t := σ19.1 40) dX12_product_50 (by decide) fl12_288 rfl (rfl) ?_
        have g30 := RG.s f23 40
        refine tm_callV (M' := m_X12_joins) (As := [.int (iI 3), .int (iI (σ.1 39)), .int (iI (σ.1 40)), .int (iI (σ19.1 39)), .int (iI (σ19.1 40))]) (rest := []) dX12_product_53 ok_X12_joins im_X12_joins se_X12_joins ml12_310 np_X12_joins rfl rfl (Nat.le_of_ble_eq_true rfl) (Nat.le_of_ble_eq_true rfl) rfl (c_X12_joins (d + 4 * lv + 6) (σ := σ19) (k := 3) (ak := σ.1 39) (a := σ.1 40) (bk := σ19.1 39) (c := σ19.1 40) f23 (by omega) (by decide) (by omega) (by have z := gt; unfold GT at z; omega) (by omega) (by omega) (by omega)) (fun r31 σ32 hp => ?_)
        obtain ⟨rfl, f34, f35, f36, f37, f38⟩ := hp
        show Tm _ _ 56 b σ32 [(1, .int (iI v20)), (3, .int (iI (σ.1 40))), (2, .int (iI (σ.1 39))), (0, .ref b)] [] _
        have tr3 := tr2.join f34 ⟨f36.1, f36.2.1⟩ f37 f38 (by decide) hrd
        have gtj : GT σ32 := by unfold GT; rw [f36.2.2.1, f36.2.2.2, f36.1]; exact ⟨Or.inr rfl, fun _ => by omega⟩
        have mm3 : σ32.1 19 = _ := f34.1 19 (by decide)
        have e28c : σ32.1 28 = σ0.1 28 := by rw [f34.1 28 (by decide), e28b, e28a]; exact h28s
        refine tm_goto (tgt := 5) dX12_product_56 (by decide) ?_
        refine tm_iload_n dX12_product_5 rfl 0 rfl ?_
        refine tm_if_eq (tgt := 59) dX12_product_6 (by decide) ⟨by omega, by omega⟩ (fun h39 => ?_) (fun h39 => ?_)
        · exact absurd h39 (by omega)
        · exact tm_sub [0, 3] rfl (ih _ (by omega) (v20) σ32 ((((Fr.rfl.trans (Fr.sub hF (by decide) (by decide) (by decide))).trans (Fr.sub f14 (by decide) (by decide) (by decide))).trans (Fr.sub f22 (by decide) (by decide) (by decide))).trans (Fr.sub f34 (by decide) (by decide) (by decide))) f35 (by omega) (tr3.le (by decide)) gtj e28c rfl)
theorem dX12_product_0 : decode cX12_product 0 = .ok (.aload_n 0, 1) := by decide +kernel
theorem dX12_product_1 : decode cX12_product 1 = .ok (.invokevirtual 317, 3) := by decide +kernel
theorem dX12_product_4 : decode cX12_product 4 = .ok (.istore_n 1, 1) := by decide +kernel
theorem dX12_product_59 : decode cX12_product 59 = .ok (.iload_n 1, 1) := by decide +kernel
theorem dX12_product_60 : decode cX12_product 60 = .ok (.ireturn, 1) := by decide +kernel
set_option maxHeartbeats 4000000 in
set_option maxRecDepth 20000 in
theorem c_X12_product (d : Nat) {b : Nat} {σ : MS} {lv : Nat} (hce : ∀ (d : Nat) {b : Nat} {σ : MS} (hR : RG σ) (hrd : RDY σ) (hnn : NN σ) (h28 : σ.1 28 = 8 - (lv : Int)), Tm (d + 4 * lv + 8) m_X12_expression 0 b σ [(0, .ref b)] [] (fun ro σ2 => ∃ v : Int, ro = some (.int (iI v)) ∧ ((v = 0 ∨ v = 1)) ∧ (Fr [19, 20, 22, 23, 26, 27, 28, 32, 34, 39, 40] [3, 4, 5, 6, 7, 8, 35] [24, 38] σ σ2) ∧ (RG σ2) ∧ (PBF σ σ2) ∧ (v = 1 → EXS σ σ2) ∧ (PRS 2 v σ σ2))) (hR : RG σ) (hrd : RDY σ) (hnn : NN σ) (h28 : σ.1 28 = 8 - (lv : Int)) : Tm (d + 4 * lv + 10) m_X12_product 0 b σ [(0, .ref b)] [] (fun ro σ2 => ∃ v : Int, ro = some (.int (iI v)) ∧ ((v = 0 ∨ v = 1)) ∧ (Fr [19, 20, 22, 23, 26, 27, 28, 32, 34, 39, 40] [3, 4, 5, 6, 7, 8, 35] [24, 38] σ σ2) ∧ (RG σ2) ∧ (PBF σ σ2) ∧ (v = 1 → EXS σ σ2) ∧ (PRS 4 v σ σ2)) := by
  have tr0 : TR 4 0 σ [4] σ := TR.start hrd hnn
  have tr1 := tr0.nxt (fun q => g4)
  refine tm_aload_n dX12_product_0 rfl 0 rfl ?_
  refine tm_callV (M' := m_X12_signed) (As := []) (rest := []) dX12_product_1 ok_X12_signed im_X12_signed se_X12_signed ml12_317 np_X12_signed rfl rfl (Nat.le_of_ble_eq_true rfl) (Nat.le_of_ble_eq_true rfl) rfl (c_X12_signed (d) (σ := σ)  hce hR hrd hnn h28) (fun r1 σ2 hp => ?_)
  obtain ⟨v3, rfl, f4, f5, f6, f7, f8, f9⟩ := hp
  show Tm _ _ 4 b σ2 [(0, .ref b)] [.int (iI v3)] _
  have xp0 := f4
  have xp1 := f5
  have xp2 := f6
  have xp3 := f7
  have xp4 := f8
  have xp5 := f9
  refine tm_istore_n (L' := [(1, .int (iI v3)), (0, .ref b)]) dX12_product_4 rfl (by decide) rfl ?_
  refine tm_iload_n dX12_product_5 rfl 0 rfl ?_
  refine tm_if_eq (tgt := 59) dX12_product_6 (by decide) ⟨by omega, by omega⟩ (fun h10 => ?_) (fun h10 => ?_)
  · refine tm_iload_n dX12_product_59 rfl 0 rfl ?_
    exact tm_zret (v := v3) rfl (by omega) dX12_product_60 (⟨_, rfl, by omega, (Fr.rfl.trans (Fr.sub f5 (by decide) (by decide) (by decide))), f6, (tr1.fail xp3 (xp5.2 (by omega))).1, fun q => absurd q (by omega), by rw [show v3 = 0 by omega]; exact PRS.no (tr1.fail xp3 (xp5.2 (by omega))).2⟩)
  · have tr2 := tr1.sub xp3 (xp4 (by omega)) (xp5.1 (by omega))
    have e28z := (xp4 (by omega)).2.2.2.2
    refine tm_sub [0, 1] rfl (l_prod (d) (σ0 := σ2) hce f6 tr2.2.2.1 ((xp4 (by omega)).2.2.2.2.trans h28) (fun a18 σ19 F13 R14 f15 f16 f17 => ?_) _ (v3) σ2 Fr.rfl f6 (by omega) (TR.start (xp4 (by omega)).1 xp3.2.2.1) (xp4 (by omega)).2.2.1 rfl rfl)
    show Tm _ _ 59 b σ19 [(1, .int (iI a18)), (0, .ref b)] [] _
    refine tm_iload_n dX12_product_59 rfl 0 rfl ?_
    exact tm_zret (v := a18) rfl (by omega) dX12_product_60 (⟨_, rfl, by omega, ((Fr.rfl.trans (Fr.sub f5 (by decide) (by decide) (by decide))).trans (Fr.sub F13 (by decide) (by decide) (by decide))), R14, (by rcases f15 with z | z; exact tr2.1.trans (f17 z).1; exact tr2.1.trans (f16 z).1.1), fun z => (tr2.cat (f16 z).1).exs (by decide) (f16 z).2.1 ((f16 z).2.2.trans e28z), ⟨fun z q => (tr2.cat (f16 z).1).2.2.2.2 q, fun z q => (tr2.2.2.2.2 q).fail (((f17 z).2 q).more [])⟩⟩)
theorem ml12_314 : Cond.methodLink RX12 314 yX12_product ∈ pWW := pw8 (List.mem_of_getElem? (i := 225) rfl) rfl
theorem dX12_sum_9 : decode cX12_sum 9 = .ok (.aload_n 0, 1) := by decide +kernel
theorem dX12_sum_10 : decode cX12_sum 10 = .ok (.bipush 43, 2) := by decide +kernel
theorem dX12_sum_12 : decode cX12_sum 12 = .ok (.invokevirtual 258, 3) := by decide +kernel
theorem dX12_sum_15 : decode cX12_sum 15 = .ok (.ifCond .ne 12, 3) := by decide +kernel
theorem dX12_sum_27 : decode cX12_sum 27 = .ok (.aload_n 0, 1) := by decide +kernel
theorem dX12_sum_28 : decode cX12_sum 28 = .ok (.bipush 43, 2) := by decide +kernel
theorem dX12_sum_30 : decode cX12_sum 30 = .ok (.invokevirtual 258, 3) := by decide +kernel
theorem dX12_sum_33 : decode cX12_sum 33 = .ok (.ifCond .eq 7, 3) := by decide +kernel
theorem dX12_sum_40 : decode cX12_sum 40 = .ok (.iconst 2, 1) := by decide +kernel
theorem dX12_sum_41 : decode cX12_sum 41 = .ok (.istore_n 2, 1) := by decide +kernel
theorem dX12_sum_42 : decode cX12_sum 42 = .ok (.aload_n 0, 1) := by decide +kernel
theorem dX12_sum_43 : decode cX12_sum 43 = .ok (.getfield 285, 3) := by decide +kernel
theorem dX12_sum_46 : decode cX12_sum 46 = .ok (.istore_n 3, 1) := by decide +kernel
theorem dX12_sum_47 : decode cX12_sum 47 = .ok (.aload_n 0, 1) := by decide +kernel
theorem dX12_sum_48 : decode cX12_sum 48 = .ok (.getfield 288, 3) := by decide +kernel
theorem dX12_sum_51 : decode cX12_sum 51 = .ok (.istore 4, 2) := by decide +kernel
theorem dX12_sum_53 : decode cX12_sum 53 = .ok (.aload_n 0, 1) := by decide +kernel
theorem dX12_sum_54 : decode cX12_sum 54 = .ok (.invokevirtual 265, 3) := by decide +kernel
theorem dX12_sum_57 : decode cX12_sum 57 = .ok (.aload_n 0, 1) := by decide +kernel
theorem dX12_sum_58 : decode cX12_sum 58 = .ok (.invokevirtual 314, 3) := by decide +kernel
theorem dX12_sum_61 : decode cX12_sum 61 = .ok (.istore_n 1, 1) := by decide +kernel
theorem dX12_sum_62 : decode cX12_sum 62 = .ok (.iload_n 1, 1) := by decide +kernel
theorem dX12_sum_63 : decode cX12_sum 63 = .ok (.ifCond .eq 19, 3) := by decide +kernel
theorem dX12_sum_82 : decode cX12_sum 82 = .ok (.goto (-77), 3) := by decide +kernel
theorem dX12_sum_5 : decode cX12_sum 5 = .ok (.iload_n 1, 1) := by decide +kernel
theorem dX12_sum_6 : decode cX12_sum 6 = .ok (.ifCond .eq 79, 3) := by decide +kernel
theorem dX12_sum_66 : decode cX12_sum 66 = .ok (.aload_n 0, 1) := by decide +kernel
theorem dX12_sum_67 : decode cX12_sum 67 = .ok (.iload_n 2, 1) := by decide +kernel
theorem dX12_sum_68 : decode cX12_sum 68 = .ok (.iload_n 3, 1) := by decide +kernel
theorem dX12_sum_69 : decode cX12_sum 69 = .ok (.iload 4, 2) := by decide +kernel
theorem dX12_sum_71 : decode cX12_sum 71 = .ok (.aload_n 0, 1) := by decide +kernel
theorem dX12_sum_72 : decode cX12_sum 72 = .ok (.getfield 285, 3) := by decide +kernel
theorem dX12_sum_75 : decode cX12_sum 75 = .ok (.aload_n 0, 1) := by decide +kernel
theorem dX12_sum_76 : decode cX12_sum 76 = .ok (.getfield 288, 3) := by decide +kernel
theorem dX12_sum_79 : decode cX12_sum 79 = .ok (.invokevirtual 310, 3) := by decide +kernel
theorem dX12_sum_36 : decode cX12_sum 36 = .ok (.iconst 1, 1) := by decide +kernel
theorem dX12_sum_37 : decode cX12_sum 37 = .ok (.goto 4, 3) := by decide +kernel
theorem dX12_sum_18 : decode cX12_sum 18 = .ok (.aload_n 0, 1) := by decide +kernel
theorem dX12_sum_19 : decode cX12_sum 19 = .ok (.bipush 45, 2) := by decide +kernel
theorem dX12_sum_21 : decode cX12_sum 21 = .ok (.invokevirtual 258, 3) := by decide +kernel
theorem dX12_sum_24 : decode cX12_sum 24 = .ok (.ifCond .eq 61, 3) := by decide +kernel
set_option maxHeartbeats 4000000 in
set_option maxRecDepth 20000 in
theorem l_sum (d : Nat) {b : Nat} {σ0 : MS} {lv : Nat} {post : Option Value → MS → Prop} (hce : ∀ (d : Nat) {b : Nat} {σ : MS} (hR : RG σ) (hrd : RDY σ) (hnn : NN σ) (h28 : σ.1 28 = 8 - (lv : Int)), Tm (d + 4 * lv + 8) m_X12_expression 0 b σ [(0, .ref b)] [] (fun ro σ2 => ∃ v : Int, ro = some (.int (iI v)) ∧ ((v = 0 ∨ v = 1)) ∧ (Fr [19, 20, 22, 23, 26, 27, 28, 32, 34, 39, 40] [3, 4, 5, 6, 7, 8, 35] [24, 38] σ σ2) ∧ (RG σ2) ∧ (PBF σ σ2) ∧ (v = 1 → EXS σ σ2) ∧ (PRS 2 v σ σ2))) (hR0 : RG σ0) (hrd : RDY σ0) (hl28 : σ0.1 28 = 8 - (lv : Int)) (hx_85 : ∀ (a : Int) (σ : MS) , (Fr [19, 20, 22, 23, 26, 27, 28, 32, 34, 39, 40] [3, 4, 5, 6, 7, 8, 35] [24, 38] σ0 σ) → (RG σ) → (a = 0 ∨ a = 1) → ((a = 1 → TR 8 0 σ0 [] σ ∧ GT σ ∧ σ.1 28 = σ0.1 28)) → ((a = 0 → PBF σ0 σ ∧ ∀ q, GOF [8] σ0 q)) → Tm (d + 4 * lv + 11) m_X12_sum 85 b σ [(1, .int (iI a)), (0, .ref b)] [] post) : ∀ (n : Nat) (a : Int) (σ : MS) , (Fr [19, 20, 22, 23, 26, 27, 28, 32, 34, 39, 40] [3, 4, 5, 6, 7, 8, 35] [24, 38] σ0 σ) → (RG σ) → (a = 1) → (TR 8 0 σ0 [8] σ) → (GT σ) → (σ.1 28 = σ0.1 28) → (1300 - σ.1 19).toNat = n → Tm (d + 4 * lv + 11) m_X12_sum 9 b σ [(1, .int (iI a)), (0, .ref b)] [] post := by
  intro n
  induction n using Nat.strongRecOn with
  | _ n ih =>
    intro a σ hF hR h0 htr hgt h28s hm
    have tok0 := htr.2.2.1.1.1
    have tok2 := htr.2.2.1.1.2.1
    refine tm_aload_n dX12_sum_9 rfl 1 rfl ?_
    refine tm_bipush dX12_sum_10 (by decide) ?_
    refine tm_callV (M' := m_X12_isSign) (As := [.int (iI 43)]) (rest := []) dX12_sum_12 ok_X12_isSign im_X12_isSign se_X12_isSign ml12_258 np_X12_isSign rfl rfl (Nat.le_of_ble_eq_true rfl) (Nat.le_of_ble_eq_true rfl) rfl (c2_X12_isSign (d + 4 * lv + 9) (σ := σ) (c := 43) hR (by omega)) (fun r1 σ2 hp => ?_)
    obtain ⟨v3, rfl, rfl, f4, f5, f6⟩ := hp
    show Tm _ _ 15 b σ [(1, .int (iI a)), (0, .ref b)] [.int (iI v3)] _
    have i43 := f5
    have n43_ := f6
    refine tm_if_ne (tgt := 27) dX12_sum_15 (by decide) ⟨by omega, by omega⟩ (fun h7 => ?_) (fun h7 => ?_)
    · refine tm_aload_n dX12_sum_27 rfl 1 rfl ?_
      refine tm_bipush dX12_sum_28 (by decide) ?_
      refine tm_callV (M' := m_X12_isSign) (As := [.int (iI 43)]) (rest := []) dX12_sum_30 ok_X12_isSign im_X12_isSign se_X12_isSign ml12_258 np_X12_isSign rfl rfl (Nat.le_of_ble_eq_true rfl) (Nat.le_of_ble_eq_true rfl) rfl (c2_X12_isSign (d + 4 * lv + 9) (σ := σ) (c := 43) hR (by omega)) (fun r8 σ9 hp => ?_)
      obtain ⟨v10, rfl, rfl, f11, f12, f13⟩ := hp
      show Tm _ _ 33 b σ [(1, .int (iI a)), (0, .ref b)] [.int (iI v10)] _
      have i43b := f12
      have n43b_ := f13
      refine tm_if_eq (tgt := 40) dX12_sum_33 (by decide) ⟨by omega, by omega⟩ (fun h14 => ?_) (fun h14 => ?_)
      · refine tm_iconst dX12_sum_40 ?_
        refine tm_istore_n (L' := [(2, .int (iI 2)), (1, .int (iI a)), (0, .ref b)]) dX12_sum_41 rfl (by decide) rfl ?_
        refine tm_aload_n dX12_sum_42 rfl 2 rfl ?_
        refine tm_getS (k := 39) (t := σ.1 39) dX12_sum_43 (by decide) fl12_285 rfl (rfl) ?_
        have g15 := RG.s hR 39
        refine tm_istore_n (L' := [(3, .int (iI (σ.1 39))), (2, .int (iI 2)), (1, .int (iI a)), (0, .ref b)]) dX12_sum_46 rfl (by decide) rfl ?_
        refine tm_aload_n dX12_sum_47 rfl 3 rfl ?_
        refine tm_getS (k := 40) (t := σ.1 40) dX12_sum_48 (by decide) fl12_288 rfl (rfl) ?_
        have g16 := RG.s hR 40
        refine tm_istore (L' := [(4, .int (iI (σ.1 40))), (3, .int (iI (σ.1 39))), (2, .int (iI 2)), (1, .int (iI a)), (0, .ref b)]) dX12_sum_51 (by decide) rfl ?_
        refine tm_aload_n dX12_sum_53 rfl 4 rfl ?_
        refine tm_callV (M' := m_X12_advance) (As := []) (rest := []) dX12_sum_54 ok_X12_advance im_X12_advance se_X12_advance ml12_265 np_X12_advance rfl rfl (Nat.le_of_ble_eq_true rfl) (Nat.le_of_ble_eq_true rfl) rfl (c_X12_advance (d + 4 * lv + 5) (σ := σ)  hR (by have z := htr.2.2.1.1.1; omega)) (fun r17 σ18 hp => ?_)
        obtain ⟨rfl, f20, f21, f22, f23, f24⟩ := hp
        show Tm _ _ 57 b σ18 [(4, .int (iI (σ.1 40))), (3, .int (iI (σ.1 39))), (2, .int (iI 2)), (1, .int (iI a)), (0, .ref b)] [] _
        have gt := hgt
        unfold GT at gt
        have mm1 : σ.1 19 < σ18.1 19 := by have z := tok2 (by first | (have z := (i43 (by omega)).1; omega) | (have z := (i45 (by omega)).1; omega)); omega
        clear tok2
        have tr1 := htr.adv f21 f23 f24 (by first | (have z := (i43 (by omega)).1; omega) | (have z := (i45 (by omega)).1; omega)) (fun q => g8y (by first | exact Or.inl (i43 (by omega)) | exact Or.inr (i45 (by omega))) f20)
        have e28a : σ18.1 28 = σ.1 28 := f21.1 28 (by decide)
        have m34a : σ18.1 34 = σ.1 34 := f21.1 34 (by decide)
        refine tm_aload_n dX12_sum_57 rfl 4 rfl ?_
        refine tm_callV (M' := m_X12_product) (As := []) (rest := []) dX12_sum_58 ok_X12_product im_X12_product se_X12_product ml12_314 np_X12_product rfl rfl (Nat.le_of_ble_eq_true rfl) (Nat.le_of_ble_eq_true rfl) rfl (c_X12_product (d) (σ := σ18)  hce f22 tr1.2.2.1 tr1.nn (by rw [e28a, h28s]; exact hl28)) (fun r25 σ26 hp => ?_)
        obtain ⟨v27, rfl, f28, f29, f30, f31, f32, f33⟩ := hp
        show Tm _ _ 61 b σ26 [(4, .int (iI (σ.1 40))), (3, .int (iI (σ.1 39))), (2, .int (iI 2)), (1, .int (iI a)), (0, .ref b)] [.int (iI v27)] _
        have xp0 := f28
        have xp1 := f29
        have xp2 := f30
        have xp3 := f31
        have xp4 := f32
        have xp5 := f33
        refine tm_istore_n (L' := [(1, .int (iI v27)), (4, .int (iI (σ.1 40))), (3, .int (iI (σ.1 39))), (2, .int (iI 2)), (0, .ref b)]) dX12_sum_61 rfl (by decide) rfl ?_
        refine tm_iload_n dX12_sum_62 rfl 0 rfl ?_
        refine tm_if_eq (tgt := 82) dX12_sum_63 (by decide) ⟨by omega, by omega⟩ (fun h34 => ?_) (fun h34 => ?_)
        · refine tm_goto (tgt := 5) dX12_sum_82 (by decide) ?_
          refine tm_iload_n dX12_sum_5 rfl 0 rfl ?_
          refine tm_if_eq (tgt := 85) dX12_sum_6 (by decide) ⟨by omega, by omega⟩ (fun h35 => ?_) (fun h35 => ?_)
          · exact tm_sub [0, 4] rfl (hx_85 (v27) σ26 (((Fr.rfl.trans (Fr.sub hF (by decide) (by decide) (by decide))).trans (Fr.sub f21 (by decide) (by decide) (by decide))).trans (Fr.sub f29 (by decide) (by decide) (by decide))) f30 (by omega) (fun q => absurd q (by omega)) (fun _ => (tr1.fail xp3 (xp5.2 (by omega)))))
          · exact absurd h35 (by omega)
        · have tr2 := tr1.sub xp3 (xp4 (by omega)) (xp5.1 (by omega))
          have gt2 := (xp4 (by omega)).2.2.1
          have mm2 := (xp4 (by omega)).2.1.1
          have m34b := xp3.2.2.2.2.2.1
          have e28b := (xp4 (by omega)).2.2.2.2
          have rdj := tr2.2.2.1.2
          have tkj := tr2.2.2.1.1.1
          have gt := gt2
          refine tm_aload_n dX12_sum_66 rfl 4 rfl ?_
          refine tm_iload_n dX12_sum_67 rfl 3 rfl ?_
          refine tm_iload_n dX12_sum_68 rfl 2 rfl ?_
          refine tm_iload dX12_sum_69 1 rfl ?_
          refine tm_aload_n dX12_sum_71 rfl 4 rfl ?_
          refine tm_getS (k := 39) (t := σ26.1 39) dX12_sum_72 (by decide) fl12_285 rfl (rfl) ?_
          have g36 := RG.s f30 39
          refine tm_aload_n dX12_sum_75 rfl 4 rfl ?_
          refine tm_getS (k := 40) (t := σ26.1 40) dX12_sum_76 (by decide) fl12_288 rfl (rfl) ?_
          have g37 := RG.s f30 40
          refine tm_callV (M' := m_X12_joins) (As := [.int (iI 2), .int (iI (σ.1 39)), .int (iI (σ.1 40)), .int (iI (σ26.1 39)), .int (iI (σ26.1 40))]) (rest := []) dX12_sum_79 ok_X12_joins im_X12_joins se_X12_joins ml12_310 np_X12_joins rfl rfl (Nat.le_of_ble_eq_true rfl) (Nat.le_of_ble_eq_true rfl) rfl (c_X12_joins (d + 4 * lv + 7) (σ := σ26) (k := 2) (ak := σ.1 39) (a := σ.1 40) (bk := σ26.1 39) (c := σ26.1 40) f30 (by omega) (by decide) (by omega) (by have z := gt; unfold GT at z; omega) (by omega) (by omega) (by omega)) (fun r38 σ39 hp => ?_)
          obtain ⟨rfl, f41, f42, f43, f44, f45⟩ := hp
          show Tm _ _ 82 b σ39 [(1, .int (iI v27)), (4, .int (iI (σ.1 40))), (3, .int (iI (σ.1 39))), (2, .int (iI 2)), (0, .ref b)] [] _
          have tr3 := tr2.join f41 ⟨f43.1, f43.2.1⟩ f44 f45 (by decide) hrd
          have gtj : GT σ39 := by unfold GT; rw [f43.2.2.1, f43.2.2.2, f43.1]; exact ⟨Or.inr rfl, fun _ => by omega⟩
          have mm3 : σ39.1 19 = _ := f41.1 19 (by decide)
          have e28c : σ39.1 28 = σ0.1 28 := by rw [f41.1 28 (by decide), e28b, e28a]; exact h28s
          refine tm_goto (tgt := 5) dX12_sum_82 (by decide) ?_
          refine tm_iload_n dX12_sum_5 rfl 0 rfl ?_
          refine tm_if_eq (tgt := 85) dX12_sum_6 (by decide) ⟨by omega, by omega⟩ (fun h46 => ?_) (fun h46 => ?_)
          · exact absurd h46 (by omega)
          · exact tm_sub [0, 4] rfl (ih _ (by omega) (v27) σ39 ((((Fr.rfl.trans (Fr.sub hF (by decide) (by decide) (by decide))).trans (Fr.sub f21 (by decide) (by decide) (by decide))).trans (Fr.sub f29 (by decide) (by decide) (by decide))).trans (Fr.sub f41 (by decide) (by decide) (by decide))) f42 (by omega) (tr3.le (by decide)) gtj e28c rfl)
      · refine tm_iconst dX12_sum_36 ?_
        refine tm_goto (tgt := 41) dX12_sum_37 (by decide) ?_
        refine tm_istore_n (L' := [(2, .int (iI 1)), (1, .int (iI a)), (0, .ref b)]) dX12_sum_41 rfl (by decide) rfl ?_
        refine tm_aload_n dX12_sum_42 rfl 2 rfl ?_
        refine tm_getS (k := 39) (t := σ.1 39) dX12_sum_43 (by decide) fl12_285 rfl (rfl) ?_
        have g47 := RG.s hR 39
        refine tm_istore_n (L' := [(3, .int (iI (σ.1 39))), (2, .int (iI 1)), (1, .int (iI a)), (0, .ref b)]) dX12_sum_46 rfl (by decide) rfl ?_
        refine tm_aload_n dX12_sum_47 rfl 3 rfl ?_
        refine tm_getS (k := 40) (t := σ.1 40) dX12_sum_48 (by decide) fl12_288 rfl (rfl) ?_
        have g48 := RG.s hR 40
        refine tm_istore (L' := [(4, .int (iI (σ.1 40))), (3, .int (iI (σ.1 39))), (2, .int (iI 1)), (1, .int (iI a)), (0, .ref b)]) dX12_sum_51 (by decide) rfl ?_
        refine tm_aload_n dX12_sum_53 rfl 4 rfl ?_
        refine tm_callV (M' := m_X12_advance) (As := []) (rest := []) dX12_sum_54 ok_X12_advance im_X12_advance se_X12_advance ml12_265 np_X12_advance rfl rfl (Nat.le_of_ble_eq_true rfl) (Nat.le_of_ble_eq_true rfl) rfl (c_X12_advance (d + 4 * lv + 5) (σ := σ)  hR (by have z := htr.2.2.1.1.1; omega)) (fun r49 σ50 hp => ?_)
        obtain ⟨rfl, f52, f53, f54, f55, f56⟩ := hp
        show Tm _ _ 57 b σ50 [(4, .int (iI (σ.1 40))), (3, .int (iI (σ.1 39))), (2, .int (iI 1)), (1, .int (iI a)), (0, .ref b)] [] _
        have gt := hgt
        unfold GT at gt
        have mm1 : σ.1 19 < σ50.1 19 := by have z := tok2 (by first | (have z := (i43 (by omega)).1; omega) | (have z := (i45 (by omega)).1; omega)); omega
        clear tok2
        have tr4 := htr.adv f53 f55 f56 (by first | (have z := (i43 (by omega)).1; omega) | (have z := (i45 (by omega)).1; omega)) (fun q => g8y (by first | exact Or.inl (i43 (by omega)) | exact Or.inr (i45 (by omega))) f52)
        have e28a : σ50.1 28 = σ.1 28 := f53.1 28 (by decide)
        have m34a : σ50.1 34 = σ.1 34 := f53.1 34 (by decide)
        refine tm_aload_n dX12_sum_57 rfl 4 rfl ?_
        refine tm_callV (M' := m_X12_product) (As := []) (rest := []) dX12_sum_58 ok_X12_product im_X12_product se_X12_product ml12_314 np_X12_product rfl rfl (Nat.le_of_ble_eq_true rfl) (Nat.le_of_ble_eq_true rfl) rfl (c_X12_product (d) (σ := σ50)  hce f54 tr4.2.2.1 tr4.nn (by rw [e28a, h28s]; exact hl28)) (fun r57 σ58 hp => ?_)
        obtain ⟨v59, rfl, f60, f61, f62, f63, f64, f65⟩ := hp
        show Tm _ _ 61 b σ58 [(4, .int (iI (σ.1 40))), (3, .int (iI (σ.1 39))), (2, .int (iI 1)), (1, .int (iI a)), (0, .ref b)] [.int (iI v59)] _
        have xp0 := f60
        have xp1 := f61
        have xp2 := f62
        have xp3 := f63
        have xp4 := f64
        have xp5 := f65
        refine tm_istore_n (L' := [(1, .int (iI v59)), (4, .int (iI (σ.1 40))), (3, .int (iI (σ.1 39))), (2, .int (iI 1)), (0, .ref b)]) dX12_sum_61 rfl (by decide) rfl ?_
        refine tm_iload_n dX12_sum_62 rfl 0 rfl ?_
        refine tm_if_eq (tgt := 82) dX12_sum_63 (by decide) ⟨by omega, by omega⟩ (fun h66 => ?_) (fun h66 => ?_)
        · refine tm_goto (tgt := 5) dX12_sum_82 (by decide) ?_
          refine tm_iload_n dX12_sum_5 rfl 0 rfl ?_
          refine tm_if_eq (tgt := 85) dX12_sum_6 (by decide) ⟨by omega, by omega⟩ (fun h67 => ?_) (fun h67 => ?_)
          · exact tm_sub [0, 4] rfl (hx_85 (v59) σ58 (((Fr.rfl.trans (Fr.sub hF (by decide) (by decide) (by decide))).trans (Fr.sub f53 (by decide) (by decide) (by decide))).trans (Fr.sub f61 (by decide) (by decide) (by decide))) f62 (by omega) (fun q => absurd q (by omega)) (fun _ => (tr4.fail xp3 (xp5.2 (by omega)))))
          · exact absurd h67 (by omega)
        · have tr5 := tr4.sub xp3 (xp4 (by omega)) (xp5.1 (by omega))
          have gt2 := (xp4 (by omega)).2.2.1
          have mm2 := (xp4 (by omega)).2.1.1
          have m34b := xp3.2.2.2.2.2.1
          have e28b := (xp4 (by omega)).2.2.2.2
          have rdj := tr5.2.2.1.2
          have tkj := tr5.2.2.1.1.1
          have gt := gt2
          refine tm_aload_n dX12_sum_66 rfl 4 rfl ?_
          refine tm_iload_n dX12_sum_67 rfl 3 rfl ?_
          refine tm_iload_n dX12_sum_68 rfl 2 rfl ?_
          refine tm_iload dX12_sum_69 1 rfl ?_
          refine tm_aload_n dX12_sum_71 rfl 4 rfl ?_
          refine tm_getS (k := 39) (t := σ58.1 39) dX12_sum_72 (by decide) fl12_285 rfl (rfl) ?_
          have g68 := RG.s f62 39
          refine tm_aload_n dX12_sum_75 rfl 4 rfl ?_
          refine tm_getS (k := 40) (t := σ58.1 40) dX12_sum_76 (by decide) fl12_288 rfl (rfl) ?_
          have g69 := RG.s f62 40
          refine tm_callV (M' := m_X12_joins) (As := [.int (iI 1), .int (iI (σ.1 39)), .int (iI (σ.1 40)), .int (iI (σ58.1 39)), .int (iI (σ58.1 40))]) (rest := []) dX12_sum_79 ok_X12_joins im_X12_joins se_X12_joins ml12_310 np_X12_joins rfl rfl (Nat.le_of_ble_eq_true rfl) (Nat.le_of_ble_eq_true rfl) rfl (c_X12_joins (d + 4 * lv + 7) (σ := σ58) (k := 1) (ak := σ.1 39) (a := σ.1 40) (bk := σ58.1 39) (c := σ58.1 40) f62 (by omega) (by decide) (by omega) (by have z := gt; unfold GT at z; omega) (by omega) (by omega) (by omega)) (fun r70 σ71 hp => ?_)
          obtain ⟨rfl, f73, f74, f75, f76, f77⟩ := hp
          show Tm _ _ 82 b σ71 [(1, .int (iI v59)), (4, .int (iI (σ.1 40))), (3, .int (iI (σ.1 39))), (2, .int (iI 1)), (0, .ref b)] [] _
          have tr6 := tr5.join f73 ⟨f75.1, f75.2.1⟩ f76 f77 (by decide) hrd
          have gtj : GT σ71 := by unfold GT; rw [f75.2.2.1, f75.2.2.2, f75.1]; exact ⟨Or.inr rfl, fun _ => by omega⟩
          have mm3 : σ71.1 19 = _ := f73.1 19 (by decide)
          have e28c : σ71.1 28 = σ0.1 28 := by rw [f73.1 28 (by decide), e28b, e28a]; exact h28s
          refine tm_goto (tgt := 5) dX12_sum_82 (by decide) ?_
          refine tm_iload_n dX12_sum_5 rfl 0 rfl ?_
          refine tm_if_eq (tgt := 85) dX12_sum_6 (by decide) ⟨by omega, by omega⟩ (fun h78 => ?_) (fun h78 => ?_)
          · exact absurd h78 (by omega)
          · exact tm_sub [0, 4] rfl (ih _ (by omega) (v59) σ71 ((((Fr.rfl.trans (Fr.sub hF (by decide) (by decide) (by decide))).trans (Fr.sub f53 (by decide) (by decide) (by decide))).trans (Fr.sub f61 (by decide) (by decide) (by decide))).trans (Fr.sub f73 (by decide) (by decide) (by decide))) f74 (by omega) (tr6.le (by decide)) gtj e28c rfl)
    · refine tm_aload_n dX12_sum_18 rfl 1 rfl ?_
      refine tm_bipush dX12_sum_19 (by decide) ?_
      refine tm_callV (M' := m_X12_isSign) (As := [.int (iI 45)]) (rest := []) dX12_sum_21 ok_X12_isSign im_X12_isSign se_X12_isSign ml12_258 np_X12_isSign rfl rfl (Nat.le_of_ble_eq_true rfl) (Nat.le_of_ble_eq_true rfl) rfl (c2_X12_isSign (d + 4 * lv + 9) (σ := σ) (c := 45) hR (by omega)) (fun r79 σ80 hp => ?_)
      obtain ⟨v81, rfl, rfl, f82, f83, f84⟩ := hp
      show Tm _ _ 24 b σ [(1, .int (iI a)), (0, .ref b)] [.int (iI v81)] _
      have i45 := f83
      have n45_ := f84
      refine tm_if_eq (tgt := 85) dX12_sum_24 (by decide) ⟨by omega, by omega⟩ (fun h85 => ?_) (fun h85 => ?_)
      · exact tm_sub [0, 1] rfl (hx_85 (a) σ (Fr.rfl.trans (Fr.sub hF (by decide) (by decide) (by decide))) hR (by omega) (fun _ => ⟨htr.nxt (fun q => g8n (n43_ (by omega)) (n45_ (by omega))), hgt, h28s⟩) (fun q => absurd q (by omega)))
      · refine tm_aload_n dX12_sum_27 rfl 1 rfl ?_
        refine tm_bipush dX12_sum_28 (by decide) ?_
        refine tm_callV (M' := m_X12_isSign) (As := [.int (iI 43)]) (rest := []) dX12_sum_30 ok_X12_isSign im_X12_isSign se_X12_isSign ml12_258 np_X12_isSign rfl rfl (Nat.le_of_ble_eq_true rfl) (Nat.le_of_ble_eq_true rfl) rfl (c2_X12_isSign (d + 4 * lv + 9) (σ := σ) (c := 43) hR (by omega)) (fun r86 σ87 hp => ?_)
        obtain ⟨v88, rfl, rfl, f89, f90, f91⟩ := hp
        show Tm _ _ 33 b σ [(1, .int (iI a)), (0, .ref b)] [.int (iI v88)] _
        have i43b := f90
        have n43b_ := f91
        refine tm_if_eq (tgt := 40) dX12_sum_33 (by decide) ⟨by omega, by omega⟩ (fun h92 => ?_) (fun h92 => ?_)
        · refine tm_iconst dX12_sum_40 ?_
          refine tm_istore_n (L' := [(2, .int (iI 2)), (1, .int (iI a)), (0, .ref b)]) dX12_sum_41 rfl (by decide) rfl ?_
          refine tm_aload_n dX12_sum_42 rfl 2 rfl ?_
          refine tm_getS (k := 39) (t := σ.1 39) dX12_sum_43 (by decide) fl12_285 rfl (rfl) ?_
          have g93 := RG.s hR 39
          refine tm_istore_n (L' := [(3, .int (iI (σ.1 39))), (2, .int (iI 2)), (1, .int (iI a)), (0, .ref b)]) dX12_sum_46 rfl (by decide) rfl ?_
          refine tm_aload_n dX12_sum_47 rfl 3 rfl ?_
          refine tm_getS (k := 40) (t := σ.1 40) dX12_sum_48 (by decide) fl12_288 rfl (rfl) ?_
          have g94 := RG.s hR 40
          refine tm_istore (L' := [(4, .int (iI (σ.1 40))), (3, .int (iI (σ.1 39))), (2, .int (iI 2)), (1, .int (iI a)), (0, .ref b)]) dX12_sum_51 (by decide) rfl ?_
          refine tm_aload_n dX12_sum_53 rfl 4 rfl ?_
          refine tm_callV (M' := m_X12_advance) (As := []) (rest := []) dX12_sum_54 ok_X12_advance im_X12_advance se_X12_advance ml12_265 np_X12_advance rfl rfl (Nat.le_of_ble_eq_true rfl) (Nat.le_of_ble_eq_true rfl) rfl (c_X12_advance (d + 4 * lv + 5) (σ := σ)  hR (by have z := htr.2.2.1.1.1; omega)) (fun r95 σ96 hp => ?_)
          obtain ⟨rfl, f98, f99, f100, f101, f102⟩ := hp
          show Tm _ _ 57 b σ96 [(4, .int (iI (σ.1 40))), (3, .int (iI (σ.1 39))), (2, .int (iI 2)), (1, .int (iI a)), (0, .ref b)] [] _
          have gt := hgt
          unfold GT at gt
          have mm1 : σ.1 19 < σ96.1 19 := by have z := tok2 (by first | (have z := (i43 (by omega)).1; omega) | (have z := (i45 (by omega)).1; omega)); omega
          clear tok2
          have tr7 := htr.adv f99 f101 f102 (by first | (have z := (i43 (by omega)).1; omega) | (have z := (i45 (by omega)).1; omega)) (fun q => g8y (by first | exact Or.inl (i43 (by omega)) | exact Or.inr (i45 (by omega))) f98)
          have e28a : σ96.1 28 = σ.1 28 := f99.1 28 (by decide)
          have m34a : σ96.1 34 = σ.1 34 := f99.1 34 (by decide)
          refine tm_aload_n dX12_sum_57 rfl 4 rfl ?_
          refine tm_callV (M' := m_X12_product) (As := []) (rest := []) dX12_sum_58 ok_X12_product im_X12_product se_X12_product ml12_314 np_X12_product rfl rfl (Nat.le_of_ble_eq_true rfl) (Nat.le_of_ble_eq_true rfl) rfl (c_X12_product (d) (σ := σ96)  hce f100 tr7.2.2.1 tr7.nn (by rw [e28a, h28s]; exact hl28)) (fun r103 σ104 hp => ?_)
          obtain ⟨v105, rfl, f106, f107, f108, f109, f110, f111⟩ := hp
          show Tm _ _ 61 b σ104 [(4, .int (iI (σ.1 40))), (3, .int (iI (σ.1 39))), (2, .int (iI 2)), (1, .int (iI a)), (0, .ref b)] [.int (iI v105)] _
          have xp0 := f106
          have xp1 := f107
          have xp2 := f108
          have xp3 := f109
          have xp4 := f110
          have xp5 := f111
          refine tm_istore_n (L' := [(1, .int (iI v105)), (4, .int (iI (σ.1 40))), (3, .int (iI (σ.1 39))), (2, .int (iI 2)), (0, .ref b)]) dX12_sum_61 rfl (by decide) rfl ?_
          refine tm_iload_n dX12_sum_62 rfl 0 rfl ?_
          refine tm_if_eq (tgt := 82) dX12_sum_63 (by decide) ⟨by omega, by omega⟩ (fun h112 => ?_) (fun h112 => ?_)
          · refine tm_goto (tgt := 5) dX12_sum_82 (by decide) ?_
            refine tm_iload_n dX12_sum_5 rfl 0 rfl ?_
            refine tm_if_eq (tgt := 85) dX12_sum_6 (by decide) ⟨by omega, by omega⟩ (fun h113 => ?_) (fun h113 => ?_)
            · exact tm_sub [0, 4] rfl (hx_85 (v105) σ104 (((Fr.rfl.trans (Fr.sub hF (by decide) (by decide) (by decide))).trans (Fr.sub f99 (by decide) (by decide) (by decide))).trans (Fr.sub f107 (by decide) (by decide) (by decide))) f108 (by omega) (fun q => absurd q (by omega)) (fun _ => (tr7.fail xp3 (xp5.2 (by omega)))))
            · exact absurd h113 (by omega)
          · have tr8 := tr7.sub xp3 (xp4 (by omega)) (xp5.1 (by omega))
            have gt2 := (xp4 (by omega)).2.2.1
            have mm2 := (xp4 (by omega)).2.1.1
            have m34b := xp3.2.2.2.2.2.1
            have e28b := (xp4 (by omega)).2.2.2.2
            have rdj := tr8.2.2.1.2
            have tkj := tr8.2.2.1.1.1
            have gt := gt2
            refine tm_aload_n dX12_sum_66 rfl 4 rfl ?_
            refine tm_iload_n dX12_sum_67 rfl 3 rfl ?_
            refine tm_iload_n dX12_sum_68 rfl 2 rfl ?_
            refine tm_iload dX12_sum_69 1 rfl ?_
            refine tm_aload_n dX12_sum_71 rfl 4 rfl ?_
            refine tm_getS (k := 39) (t := σ104.1 39) dX12_sum_72 (by decide) fl12_285 rfl (rfl) ?_
            have g114 := RG.s f108 39
            refine tm_aload_n dX12_sum_75 rfl 4 rfl ?_
            refine tm_getS (k := 40) (t := σ104.1 40) dX12_sum_76 (by decide) fl12_288 rfl (rfl) ?_
            have g115 := RG.s f108 40
            refine tm_callV (M' := m_X12_joins) (As := [.int (iI 2), .int (iI (σ.1 39)), .int (iI (σ.1 40)), .int (iI (σ104.1 39)), .int (iI (σ104.1 40))]) (rest := []) dX12_sum_79 ok_X12_joins im_X12_joins se_X12_joins ml12_310 np_X12_joins rfl rfl (Nat.le_of_ble_eq_true rfl) (Nat.le_of_ble_eq_true rfl) rfl (c_X12_joins (d + 4 * lv + 7) (σ := σ104) (k := 2) (ak := σ.1 39) (a := σ.1 40) (bk := σ104.1 39) (c := σ104.1 40) f108 (by omega) (by decide) (by omega) (by have z := gt; unfold GT at z; omega) (by omega) (by omega) (by omega)) (fun r116 σ117 hp => ?_)
            obtain ⟨rfl, f119, f120, f121, f122, f123⟩ := hp
            show Tm _ _ 82 b σ117 [(1, .int (iI v105)), (4, .int (iI (σ.1 40))), (3, .int (iI (σ.1 39))), (2, .int (iI 2)), (0, .ref b)] [] _
            have tr9 := tr8.join f119 ⟨f121.1, f121.2.1⟩ f122 f123 (by decide) hrd
            have gtj : GT σ117 := by unfold GT; rw [f121.2.2.1, f121.2.2.2, f121.1]; exact ⟨Or.inr rfl, fun _ => by omega⟩
            have mm3 : σ117.1 19 = _ := f119.1 19 (by decide)
            have e28c : σ117.1 28 = σ0.1 28 := by rw [f119.1 28 (by decide), e28b, e28a]; exact h28s
            refine tm_goto (tgt := 5) dX12_sum_82 (by decide) ?_
            refine tm_iload_n dX12_sum_5 rfl 0 rfl ?_
            refine tm_if_eq (tgt := 85) dX12_sum_6 (by decide) ⟨by omega, by omega⟩ (fun h124 => ?_) (fun h124 => ?_)
            · exact absurd h124 (by omega)
            · exact tm_sub [0, 4] rfl (ih _ (by omega) (v105) σ117 ((((Fr.rfl.trans (Fr.sub hF (by decide) (by decide) (by decide))).trans (Fr.sub f99 (by decide) (by decide) (by decide))).trans (Fr.sub f107 (by decide) (by decide) (by decide))).trans (Fr.sub f119 (by decide) (by decide) (by decide))) f120 (by omega) (tr9.le (by decide)) gtj e28c rfl)
        · refine tm_iconst dX12_sum_36 ?_
          refine tm_goto (tgt := 41) dX12_sum_37 (by decide) ?_
          refine tm_istore_n (L' := [(2, .int (iI 1)), (1, .int (iI a)), (0, .ref b)]) dX12_sum_41 rfl (by decide) rfl ?_
          refine tm_aload_n dX12_sum_42 rfl 2 rfl ?_
          refine tm_getS (k := 39) (t := σ.1 39) dX12_sum_43 (by decide) fl12_285 rfl (rfl) ?_
          have g125 := RG.s hR 39
          refine tm_istore_n (L' := [(3, .int (iI (σ.1 39))), (2, .int (iI 1)), (1, .int (iI a)), (0, .ref b)]) dX12_sum_46 rfl (by decide) rfl ?_
          refine tm_aload_n dX12_sum_47 rfl 3 rfl ?_
          refine tm_getS (k := 40) (t := σ.1 40) dX12_sum_48 (by decide) fl12_288 rfl (rfl) ?_
          have g126 := RG.s hR 40
          refine tm_istore (L' := [(4, .int (iI (σ.1 40))), (3, .int (iI (σ.1 39))), (2, .int (iI 1)), (1, .int (iI a)), (0, .ref b)]) dX12_sum_51 (by decide) rfl ?_
          refine tm_aload_n dX12_sum_53 rfl 4 rfl ?_
          refine tm_callV (M' := m_X12_advance) (As := []) (rest := []) dX12_sum_54 ok_X12_advance im_X12_advance se_X12_advance ml12_265 np_X12_advance rfl rfl (Nat.le_of_ble_eq_true rfl) (Nat.le_of_ble_eq_true rfl) rfl (c_X12_advance (d + 4 * lv + 5) (σ := σ)  hR (by have z := htr.2.2.1.1.1; omega)) (fun r127 σ128 hp => ?_)
          obtain ⟨rfl, f130, f131, f132, f133, f134⟩ := hp
          show Tm _ _ 57 b σ128 [(4, .int (iI (σ.1 40))), (3, .int (iI (σ.1 39))), (2, .int (iI 1)), (1, .int (iI a)), (0, .ref b)] [] _
          have gt := hgt
          unfold GT at gt
          have mm1 : σ.1 19 < σ128.1 19 := by have z := tok2 (by first | (have z := (i43 (by omega)).1; omega) | (have z := (i45 (by omega)).1; omega)); omega
          clear tok2
          have tr10 := htr.adv f131 f133 f134 (by first | (have z := (i43 (by omega)).1; omega) | (have z := (i45 (by omega)).1; omega)) (fun q => g8y (by first | exact Or.inl (i43 (by omega)) | exact Or.inr (i45 (by omega))) f130)
          have e28a : σ128.1 28 = σ.1 28 := f131.1 28 (by decide)
          have m34a : σ128.1 34 = σ.1 34 := f131.1 34 (by decide)
          refine tm_aload_n dX12_sum_57 rfl 4 rfl ?_
          refine tm_callV (M' := m_X12_product) (As := []) (rest := []) dX12_sum_58 ok_X12_product im_X12_product se_X12_product ml12_314 np_X12_product rfl rfl (Nat.le_of_ble_eq_true rfl) (Nat.le_of_ble_eq_true rfl) rfl (c_X12_product (d) (σ := σ128)  hce f132 tr10.2.2.1 tr10.nn (by rw [e28a, h28s]; exact hl28)) (fun r135 σ136 hp => ?_)
          obtain ⟨v137, rfl, f138, f139, f140, f141, f142, f143⟩ := hp
          show Tm _ _ 61 b σ136 [(4, .int (iI (σ.1 40))), (3, .int (iI (σ.1 39))), (2, .int (iI 1)), (1, .int (iI a)), (0, .ref b)] [.int (iI v137)] _
          have xp0 := f138
          have xp1 := f139
          have xp2 := f140
          have xp3 := f141
          have xp4 := f142
          have xp5 := f143
          refine tm_istore_n (L' := [(1, .int (iI v137)), (4, .int (iI (σ.1 40))), (3, .int (iI (σ.1 39))), (2, .int (iI 1)), (0, .ref b)]) dX12_sum_61 rfl (by decide) rfl ?_
          refine tm_iload_n dX12_sum_62 rfl 0 rfl ?_
          refine tm_if_eq (tgt := 82) dX12_sum_63 (by decide) ⟨by omega, by omega⟩ (fun h144 => ?_) (fun h144 => ?_)
          · refine tm_goto (tgt := 5) dX12_sum_82 (by decide) ?_
            refine tm_iload_n dX12_sum_5 rfl 0 rfl ?_
            refine tm_if_eq (tgt := 85) dX12_sum_6 (by decide) ⟨by omega, by omega⟩ (fun h145 => ?_) (fun h145 => ?_)
            · exact tm_sub [0, 4] rfl (hx_85 (v137) σ136 (((Fr.rfl.trans (Fr.sub hF (by decide) (by decide) (by decide))).trans (Fr.sub f131 (by decide) (by decide) (by decide))).trans (Fr.sub f139 (by decide) (by decide) (by decide))) f140 (by omega) (fun q => absurd q (by omega)) (fun _ => (tr10.fail xp3 (xp5.2 (by omega)))))
            · exact absurd h145 (by omega)
          · have tr11 := tr10.sub xp3 (xp4 (by omega)) (xp5.1 (by omega))
            have gt2 := (xp4 (by omega)).2.2.1
            have mm2 := (xp4 (by omega)).2.1.1
            have m34b := xp3.2.2.2.2.2.1
            have e28b := (xp4 (by omega)).2.2.2.2
            have rdj := tr11.2.2.1.2
            have tkj := tr11.2.2.1.1.1
            have gt := gt2
            refine tm_aload_n dX12_sum_66 rfl 4 rfl ?_
            refine tm_iload_n dX12_sum_67 rfl 3 rfl ?_
            refine tm_iload_n dX12_sum_68 rfl 2 rfl ?_
            refine tm_iload dX12_sum_69 1 rfl ?_
            refine tm_aload_n dX12_sum_71 rfl 4 rfl ?_
            refine tm_getS (k := 39) (t := σ136.1 39) dX12_sum_72 (by decide) fl12_285 rfl (rfl) ?_
            have g146 := RG.s f140 39
            refine tm_aload_n dX12_sum_75 rfl 4 rfl ?_
            refine tm_getS (k := 40) (t := σ136.1 40) dX12_sum_76 (by decide) fl12_288 rfl (rfl) ?_
            have g147 := RG.s f140 40
            refine tm_callV (M' := m_X12_joins) (As := [.int (iI 1), .int (iI (σ.1 39)), .int (iI (σ.1 40)), .int (iI (σ136.1 39)), .int (iI (σ136.1 40))]) (rest := []) dX12_sum_79 ok_X12_joins im_X12_joins se_X12_joins ml12_310 np_X12_joins rfl rfl (Nat.le_of_ble_eq_true rfl) (Nat.le_of_ble_eq_true rfl) rfl (c_X12_joins (d + 4 * lv + 7) (σ := σ136) (k := 1) (ak := σ.1 39) (a := σ.1 40) (bk := σ136.1 39) (c := σ136.1 40) f140 (by omega) (by decide) (by omega) (by have z := gt; unfold GT at z; omega) (by omega) (by omega) (by omega)) (fun r148 σ149 hp => ?_)
            obtain ⟨rfl, f151, f152, f153, f154, f155⟩ := hp
            show Tm _ _ 82 b σ149 [(1, .int (iI v137)), (4, .int (iI (σ.1 40))), (3, .int (iI (σ.1 39))), (2, .int (iI 1)), (0, .ref b)] [] _
            have tr12 := tr11.join f151 ⟨f153.1, f153.2.1⟩ f154 f155 (by decide) hrd
            have gtj : GT σ149 := by unfold GT; rw [f153.2.2.1, f153.2.2.2, f153.1]; exact ⟨Or.inr rfl, fun _ => by omega⟩
            have mm3 : σ149.1 19 = _ := f151.1 19 (by decide)
            have e28c : σ149.1 28 = σ0.1 28 := by rw [f151.1 28 (by decide), e28b, e28a]; exact h28s
            refine tm_goto (tgt := 5) dX12_sum_82 (by decide) ?_
            refine tm_iload_n dX12_sum_5 rfl 0 rfl ?_
            refine tm_if_eq (tgt := 85) dX12_sum_6 (by decide) ⟨by omega, by omega⟩ (fun h156 => ?_) (fun h156 => ?_)
            · exact absurd h156 (by omega)
            · exact tm_sub [0, 4] rfl (ih _ (by omega) (v137) σ149 ((((Fr.rfl.trans (Fr.sub hF (by decide) (by decide) (by decide))).trans (Fr.sub f131 (by decide) (by decide) (by decide))).trans (Fr.sub f139 (by decide) (by decide) (by decide))).trans (Fr.sub f151 (by decide) (by decide) (by decide))) f152 (by omega) (tr12.le (by decide)) gtj e28c rfl)
theorem dX12_sum_0 : decode cX12_sum 0 = .ok (.aload_n 0, 1) := by decide +kernel
theorem dX12_sum_1 : decode cX12_sum 1 = .ok (.invokevirtual 314, 3) := by decide +kernel
theorem dX12_sum_4 : decode cX12_sum 4 = .ok (.istore_n 1, 1) := by decide +kernel
theorem dX12_sum_85 : decode cX12_sum 85 = .ok (.iload_n 1, 1) := by decide +kernel
theorem dX12_sum_86 : decode cX12_sum 86 = .ok (.ireturn, 1) := by decide +kernel
set_option maxHeartbeats 4000000 in
set_option maxRecDepth 20000 in
theorem c_X12_sum (d : Nat) {b : Nat} {σ : MS} {lv : Nat} (hce : ∀ (d : Nat) {b : Nat} {σ : MS} (hR : RG σ) (hrd : RDY σ) (hnn : NN σ) (h28 : σ.1 28 = 8 - (lv : Int)), Tm (d + 4 * lv + 8) m_X12_expression 0 b σ [(0, .ref b)] [] (fun ro σ2 => ∃ v : Int, ro = some (.int (iI v)) ∧ ((v = 0 ∨ v = 1)) ∧ (Fr [19, 20, 22, 23, 26, 27, 28, 32, 34, 39, 40] [3, 4, 5, 6, 7, 8, 35] [24, 38] σ σ2) ∧ (RG σ2) ∧ (PBF σ σ2) ∧ (v = 1 → EXS σ σ2) ∧ (PRS 2 v σ σ2))) (hR : RG σ) (hrd : RDY σ) (hnn : NN σ) (h28 : σ.1 28 = 8 - (lv : Int)) : Tm (d + 4 * lv + 11) m_X12_sum 0 b σ [(0, .ref b)] [] (fun ro σ2 => ∃ v : Int, ro = some (.int (iI v)) ∧ ((v = 0 ∨ v = 1)) ∧ (Fr [19, 20, 22, 23, 26, 27, 28, 32, 34, 39, 40] [3, 4, 5, 6, 7, 8, 35] [24, 38] σ σ2) ∧ (RG σ2) ∧ (PBF σ σ2) ∧ (v = 1 → EXS σ σ2) ∧ (PRS 3 v σ σ2)) := by
  have tr0 : TR 3 0 σ [3] σ := TR.start hrd hnn
  have tr1 := tr0.nxt (fun q => g3)
  refine tm_aload_n dX12_sum_0 rfl 0 rfl ?_
  refine tm_callV (M' := m_X12_product) (As := []) (rest := []) dX12_sum_1 ok_X12_product im_X12_product se_X12_product ml12_314 np_X12_product rfl rfl (Nat.le_of_ble_eq_true rfl) (Nat.le_of_ble_eq_true rfl) rfl (c_X12_product (d) (σ := σ)  hce hR hrd hnn h28) (fun r1 σ2 hp => ?_)
  obtain ⟨v3, rfl, f4, f5, f6, f7, f8, f9⟩ := hp
  show Tm _ _ 4 b σ2 [(0, .ref b)] [.int (iI v3)] _
  have xp0 := f4
  have xp1 := f5
  have xp2 := f6
  have xp3 := f7
  have xp4 := f8
  have xp5 := f9
  refine tm_istore_n (L' := [(1, .int (iI v3)), (0, .ref b)]) dX12_sum_4 rfl (by decide) rfl ?_
  refine tm_iload_n dX12_sum_5 rfl 0 rfl ?_
  refine tm_if_eq (tgt := 85) dX12_sum_6 (by decide) ⟨by omega, by omega⟩ (fun h10 => ?_) (fun h10 => ?_)
  · refine tm_iload_n dX12_sum_85 rfl 0 rfl ?_
    exact tm_zret (v := v3) rfl (by omega) dX12_sum_86 (⟨_, rfl, by omega, (Fr.rfl.trans (Fr.sub f5 (by decide) (by decide) (by decide))), f6, (tr1.fail xp3 (xp5.2 (by omega))).1, fun q => absurd q (by omega), by rw [show v3 = 0 by omega]; exact PRS.no (tr1.fail xp3 (xp5.2 (by omega))).2⟩)
  · have tr2 := tr1.sub xp3 (xp4 (by omega)) (xp5.1 (by omega))
    have e28z := (xp4 (by omega)).2.2.2.2
    refine tm_sub [0, 1] rfl (l_sum (d) (σ0 := σ2) hce f6 tr2.2.2.1 ((xp4 (by omega)).2.2.2.2.trans h28) (fun a18 σ19 F13 R14 f15 f16 f17 => ?_) _ (v3) σ2 Fr.rfl f6 (by omega) (TR.start (xp4 (by omega)).1 xp3.2.2.1) (xp4 (by omega)).2.2.1 rfl rfl)
    show Tm _ _ 85 b σ19 [(1, .int (iI a18)), (0, .ref b)] [] _
    refine tm_iload_n dX12_sum_85 rfl 0 rfl ?_
    exact tm_zret (v := a18) rfl (by omega) dX12_sum_86 (⟨_, rfl, by omega, ((Fr.rfl.trans (Fr.sub f5 (by decide) (by decide) (by decide))).trans (Fr.sub F13 (by decide) (by decide) (by decide))), R14, (by rcases f15 with z | z; exact tr2.1.trans (f17 z).1; exact tr2.1.trans (f16 z).1.1), fun z => (tr2.cat (f16 z).1).exs (by decide) (f16 z).2.1 ((f16 z).2.2.trans e28z), ⟨fun z q => (tr2.cat (f16 z).1).2.2.2.2 q, fun z q => (tr2.2.2.2.2 q).fail (((f17 z).2 q).more [])⟩⟩)
