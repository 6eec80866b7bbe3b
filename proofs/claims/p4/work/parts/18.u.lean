theorem fl12_69 : Cond.fieldLink RX12 69 (TX12 37).1 (TX12 37).2.1 (TX12 37).2.2.1 ∈ pWW := pw7 (List.mem_of_getElem? (i := 44) rfl) rfl
theorem dX12_statement_57 : decode cX12_statement 57 = .ok (.aload_n 0, 1) := by decide +kernel
theorem dX12_statement_58 : decode cX12_statement 58 = .ok (.dup, 1) := by decide +kernel
theorem dX12_statement_59 : decode cX12_statement 59 = .ok (.getfield 343, 3) := by decide +kernel
theorem dX12_statement_62 : decode cX12_statement 62 = .ok (.iconst 1, 1) := by decide +kernel
theorem dX12_statement_63 : decode cX12_statement 63 = .ok (.iadd, 1) := by decide +kernel
theorem dX12_statement_64 : decode cX12_statement 64 = .ok (.putfield 343, 3) := by decide +kernel
theorem dX12_statement_67 : decode cX12_statement 67 = .ok (.aload_n 0, 1) := by decide +kernel
theorem dX12_statement_68 : decode cX12_statement 68 = .ok (.getfield 343, 3) := by decide +kernel
theorem dX12_statement_71 : decode cX12_statement 71 = .ok (.bipush 41, 2) := by decide +kernel
theorem dX12_statement_73 : decode cX12_statement 73 = .ok (.if_icmp .ne 9, 3) := by decide +kernel
theorem dX12_statement_82 : decode cX12_statement 82 = .ok (.aload_n 0, 1) := by decide +kernel
theorem dX12_statement_83 : decode cX12_statement 83 = .ok (.invokevirtual 271, 3) := by decide +kernel
theorem dX12_statement_86 : decode cX12_statement 86 = .ok (.ifCond .eq 28, 3) := by decide +kernel
theorem dX12_statement_89 : decode cX12_statement 89 = .ok (.aload_n 0, 1) := by decide +kernel
theorem dX12_statement_90 : decode cX12_statement 90 = .ok (.getfield 69, 3) := by decide +kernel
theorem dX12_statement_93 : decode cX12_statement 93 = .ok (.aload_n 0, 1) := by decide +kernel
theorem dX12_statement_94 : decode cX12_statement 94 = .ok (.getfield 268, 3) := by decide +kernel
theorem dX12_statement_97 : decode cX12_statement 97 = .ok (.iaload, 1) := by decide +kernel
theorem dX12_statement_98 : decode cX12_statement 98 = .ok (.ifCond .ne 16, 3) := by decide +kernel
theorem dX12_statement_101 : decode cX12_statement 101 = .ok (.aload_n 0, 1) := by decide +kernel
theorem dX12_statement_102 : decode cX12_statement 102 = .ok (.getfield 69, 3) := by decide +kernel
theorem dX12_statement_105 : decode cX12_statement 105 = .ok (.aload_n 0, 1) := by decide +kernel
theorem dX12_statement_106 : decode cX12_statement 106 = .ok (.getfield 268, 3) := by decide +kernel
theorem dX12_statement_109 : decode cX12_statement 109 = .ok (.aload_n 0, 1) := by decide +kernel
theorem dX12_statement_110 : decode cX12_statement 110 = .ok (.getfield 343, 3) := by decide +kernel
theorem dX12_statement_113 : decode cX12_statement 113 = .ok (.iastore, 1) := by decide +kernel
theorem dX12_statement_76 : decode cX12_statement 76 = .ok (.aload_n 0, 1) := by decide +kernel
theorem dX12_statement_77 : decode cX12_statement 77 = .ok (.iconst 5, 1) := by decide +kernel
theorem dX12_statement_78 : decode cX12_statement 78 = .ok (.iload_n 1, 1) := by decide +kernel
theorem dX12_statement_79 : decode cX12_statement 79 = .ok (.invokevirtual 274, 3) := by decide +kernel
set_option maxHeartbeats 4000000 in
set_option maxRecDepth 20000 in
theorem b_stm57 (d : Nat) {b : Nat} {σ : MS} {lv : Nat} {p : Int} {post : Option Value → MS → Prop} (hcb : ∀ (d : Nat) {b : Nat} {σ : MS} (hR : RG σ) (hrd : RDY σ) (hnn : NN σ) (h28 : σ.1 28 = 0) (h29 : σ.1 29 = 6 - (lv : Int)) (ht : 0 ≤ σ.1 43 ∧ σ.1 43 ≤ 260), Tm (d + 3 * lv + 44) m_X12_block 0 b σ [(0, .ref b)] [] (fun ro σ2 => ∃ v : Int, ro = some (.int (iI v)) ∧ ((v = 0 ∨ v = 1)) ∧ (Fr [19, 20, 22, 23, 26, 27, 28, 29, 31, 32, 33, 34, 39, 40] [3, 4, 5, 6, 7, 8, 35, 37, 41, 42] [24, 38] σ σ2) ∧ (RG σ2) ∧ (PBF σ σ2) ∧ (Im v 1 (BLQ 28 4 σ σ2)) ∧ (Im v 0 (∀ c : Int, GOF [28] σ (qq c) σ2)))) (hR : RG σ) (hrd : RDY σ) (hnn : NN σ) (h28 : σ.1 28 = 0) (h29 : σ.1 29 = 6 - (lv : Int)) (ht : 0 ≤ σ.1 43 ∧ σ.1 43 ≤ 260) (hw0 : NMW σ ∨ WD σ 7304564 ∨ WD σ 125780071117422 ∨ WD σ 26982 ∨ WD σ 512852847717) (hp : p = σ.1 19) (h_p : -2147483648 ≤ p ∧ p ≤ 2147483647) (hret : ∀ (v : Int) (τ : MS), Fr [19, 20, 22, 23, 26, 27, 28, 29, 31, 32, 33, 34, 39, 40] [3, 4, 5, 6, 7, 8, 35, 37, 41, 42] [24, 38] σ τ → RG τ → (v = 0 ∨ v = 1) → PBF σ τ → (v = 1 → BLQ 20 2 σ τ) → (v = 0 → ∀ c : Int, GOF [20] σ (qq c) τ) → post (some (.int (iI v))) τ) : ∀ (n : Nat) , ((0 : Int)).toNat = n → Tm (d + 3 * lv + 46) m_X12_statement 57 b σ [(1, .int (iI p)), (0, .ref b)] [] post := by
  intro n
  induction n using Nat.strongRecOn with
  | _ n ih =>
    intro   hm
    have rd0 := hrd.2
    have tk0 := hrd.1.1
    have k28 := h28
    have k29 := h29
    refine tm_aload_n dX12_statement_57 rfl 1 rfl ?_
    refine tm_dup dX12_statement_58 rfl ?_
    refine tm_getS (k := 31) (t := σ.1 31) dX12_statement_59 (by decide) fl12_343 rfl (rfl) ?_
    have g1 := RG.s hR 31
    refine tm_iconst dX12_statement_62 ?_
    refine tm_iadd dX12_statement_63 ?_
    refine tm_putS (k := 31) (v := (σ.1 31) + 1) lay_12 dX12_statement_64 (by decide) fl12_343 rfl (tyX12_ok 31 (by decide)) rfl rfl rfl ?_
    refine tm_aload_n dX12_statement_67 rfl 1 rfl ?_
    refine tm_getS (k := 31) (t := (σ.1 31) + 1) dX12_statement_68 (by decide) fl12_343 rfl (rs_eq) ?_
    refine tm_bipush dX12_statement_71 (by decide) ?_
    refine tm_icmp_ne (tgt := 82) dX12_statement_73 (by decide) ⟨by omega, by omega⟩ ⟨by decide, by decide⟩ (fun h2 => ?_) (fun h2 => ?_)
    · refine tm_aload_n dX12_statement_82 rfl 1 rfl ?_
      refine tm_callV (M := m_X12_statement) (pc := 83) (ix := 271) (M' := m_X12_isKept) (As := []) (rest := []) dX12_statement_83 ok_X12_isKept im_X12_isKept se_X12_isKept ml12_271 np_X12_isKept rfl rfl (Nat.le_of_ble_eq_true rfl) (Nat.le_of_ble_eq_true rfl) rfl (c_X12_isKept (d + 3 * lv + 44) (σ := (sS 31 ((σ.1 31) + 1) σ))  (hR.S (by omega))) (fun r3 σ4 hp => ?_)
      obtain ⟨v5, rfl, rfl, f6, f7⟩ := hp
      show Tm _ _ 86 b (sS 31 ((σ.1 31) + 1) σ) [(1, .int (iI p)), (0, .ref b)] [.int (iI v5)] _
      have k30 : (sS 31 ((σ.1 31) + 1) σ).1 30 = σ.1 30 := rs_o (by decide) (rfl)
      refine tm_if_eq (tgt := 114) dX12_statement_86 (by decide) ⟨by omega, by omega⟩ (fun h8 => ?_) (fun h8 => ?_)
      · refine tm_sub [1] rfl (b_stm114 (d) (σ := (sS 31 ((σ.1 31) + 1) σ)) (ρ := σ) hcb (hR.S (by omega)) ⟨hrd, hnn, (Fr.rfl.S (by decide)), PBF.of hnn (show Fr [26, 27, 31] [37] [] σ (sS 31 ((σ.1 31) + 1) σ) from (Fr.rfl.S (by decide))) (by decide) (by decide) (by decide) (FLT.eq rfl), ⟨by rw [show (sS 31 ((σ.1 31) + 1) σ).1 34 = σ.1 34 from rs_o (by decide) (rfl)]; omega, rs_eq⟩, by rcases hw0 with z | z | z | z | z <;> (have q := z.1; omega), ((srt_fr (Fr.rfl : Fr [] [37] [] (sS 31 ((σ.1 31) + 1) σ) (sS 31 ((σ.1 31) + 1) σ)) (by decide) (by decide) (by decide)).trans (by unfold lnP; rw [if_neg (by omega)]))⟩ hw0 ((show (sS 31 ((σ.1 31) + 1) σ).1 28 = σ.1 28 from rs_o (by decide) (rfl)).trans k28) ((show (sS 31 ((σ.1 31) + 1) σ).1 29 = σ.1 29 from rs_o (by decide) (rfl)).trans k29) (by rw [show (sS 31 ((σ.1 31) + 1) σ).1 43 = σ.1 43 from rs_o (by decide) (rfl)]; exact ht) (fun v τ z1 z2 z3 z4 z5 z6 => hret v τ ((show Fr [19, 20, 22, 23, 26, 27, 28, 29, 31, 32, 33, 34, 39, 40] [3, 4, 5, 6, 7, 8, 35, 37, 41, 42] [24, 38] σ (sS 31 ((σ.1 31) + 1) σ) from (Fr.rfl.S (by decide))).trans z1) z2 z3 z4 z5 z6) _  rfl)
      · refine tm_aload_n dX12_statement_89 rfl 1 rfl ?_
        refine tm_get (k := 37) (v := .ref (b + 1 + 18)) lay_12 dX12_statement_90 (by decide) fl12_69 rfl ?_
        refine tm_aload_n dX12_statement_93 rfl 1 rfl ?_
        refine tm_getS (k := 30) (t := σ.1 30) dX12_statement_94 (by decide) fl12_268 rfl (rs_o (by decide) (rfl)) ?_
        have g9 := RG.s hR 30
        refine tm_iald (z := σ.1 30) (v := σ.2.1 37 (σ.1 30)) dX12_statement_97 (show mT[18]? = some (37, 0, 6) from rfl) (by omega) (by omega) (by decide) (ra_S (rfl)) ?_
        have g10 := RG.a hR 37 (σ.1 30)
        refine tm_if_ne (tgt := 114) dX12_statement_98 (by decide) ⟨by omega, by omega⟩ (fun h11 => ?_) (fun h11 => ?_)
        · refine tm_sub [1] rfl (b_stm114 (d) (σ := (sS 31 ((σ.1 31) + 1) σ)) (ρ := σ) hcb (hR.S (by omega)) ⟨hrd, hnn, (Fr.rfl.S (by decide)), PBF.of hnn (show Fr [26, 27, 31] [37] [] σ (sS 31 ((σ.1 31) + 1) σ) from (Fr.rfl.S (by decide))) (by decide) (by decide) (by decide) (FLT.eq rfl), ⟨by rw [show (sS 31 ((σ.1 31) + 1) σ).1 34 = σ.1 34 from rs_o (by decide) (rfl)]; omega, rs_eq⟩, by rcases hw0 with z | z | z | z | z <;> (have q := z.1; omega), ((srt_fr (Fr.rfl : Fr [] [37] [] (sS 31 ((σ.1 31) + 1) σ) (sS 31 ((σ.1 31) + 1) σ)) (by decide) (by decide) (by decide)).trans (by unfold lnP; rw [if_neg (by omega)]))⟩ hw0 ((show (sS 31 ((σ.1 31) + 1) σ).1 28 = σ.1 28 from rs_o (by decide) (rfl)).trans k28) ((show (sS 31 ((σ.1 31) + 1) σ).1 29 = σ.1 29 from rs_o (by decide) (rfl)).trans k29) (by rw [show (sS 31 ((σ.1 31) + 1) σ).1 43 = σ.1 43 from rs_o (by decide) (rfl)]; exact ht) (fun v τ z1 z2 z3 z4 z5 z6 => hret v τ ((show Fr [19, 20, 22, 23, 26, 27, 28, 29, 31, 32, 33, 34, 39, 40] [3, 4, 5, 6, 7, 8, 35, 37, 41, 42] [24, 38] σ (sS 31 ((σ.1 31) + 1) σ) from (Fr.rfl.S (by decide))).trans z1) z2 z3 z4 z5 z6) _  rfl)
        · refine tm_aload_n dX12_statement_101 rfl 1 rfl ?_
          refine tm_get (k := 37) (v := .ref (b + 1 + 18)) lay_12 dX12_statement_102 (by decide) fl12_69 rfl ?_
          refine tm_aload_n dX12_statement_105 rfl 1 rfl ?_
          refine tm_getS (k := 30) (t := σ.1 30) dX12_statement_106 (by decide) fl12_268 rfl (rs_o (by decide) (rfl)) ?_
          have g12 := RG.s hR 30
          refine tm_aload_n dX12_statement_109 rfl 1 rfl ?_
          refine tm_getS (k := 31) (t := (σ.1 31) + 1) dX12_statement_110 (by decide) fl12_343 rfl (rs_eq) ?_
          refine tm_iast (z := σ.1 30) (v := (σ.1 31) + 1) dX12_statement_113 (show mT[18]? = some (37, 0, 6) from rfl) (by omega) (by omega) (by decide) ?_
          refine tm_sub [1] rfl (b_stm114 (d) (σ := (sA 37 (σ.1 30) ((σ.1 31) + 1) (sS 31 ((σ.1 31) + 1) σ))) (ρ := σ) hcb ((hR.S (by omega)).A (by omega)) ⟨hrd, hnn, ((Fr.rfl.S (by decide)).A (by decide)), PBF.of hnn (show Fr [26, 27, 31] [37] [] σ (sA 37 (σ.1 30) ((σ.1 31) + 1) (sS 31 ((σ.1 31) + 1) σ)) from ((Fr.rfl.S (by decide)).A (by decide))) (by decide) (by decide) (by decide) (FLT.eq rfl), ⟨by rw [show (sA 37 (σ.1 30) ((σ.1 31) + 1) (sS 31 ((σ.1 31) + 1) σ)).1 34 = σ.1 34 from rs_A (rs_o (by decide) (rfl))]; omega, rs_A (rs_eq)⟩, by rcases hw0 with z | z | z | z | z <;> (have q := z.1; omega), ((srt_fr (show Fr [] [37] [] (sS 31 ((σ.1 31) + 1) σ) (sA 37 (σ.1 30) ((σ.1 31) + 1) (sS 31 ((σ.1 31) + 1) σ)) from (Fr.rfl.A (by decide))) (by decide) (by decide) (by decide)).trans (by unfold lnP; rw [if_neg (by omega)]))⟩ hw0 ((show (sA 37 (σ.1 30) ((σ.1 31) + 1) (sS 31 ((σ.1 31) + 1) σ)).1 28 = σ.1 28 from rs_A (rs_o (by decide) (rfl))).trans k28) ((show (sA 37 (σ.1 30) ((σ.1 31) + 1) (sS 31 ((σ.1 31) + 1) σ)).1 29 = σ.1 29 from rs_A (rs_o (by decide) (rfl))).trans k29) (by rw [show (sA 37 (σ.1 30) ((σ.1 31) + 1) (sS 31 ((σ.1 31) + 1) σ)).1 43 = σ.1 43 from rs_A (rs_o (by decide) (rfl))]; exact ht) (fun v τ z1 z2 z3 z4 z5 z6 => hret v τ ((show Fr [19, 20, 22, 23, 26, 27, 28, 29, 31, 32, 33, 34, 39, 40] [3, 4, 5, 6, 7, 8, 35, 37, 41, 42] [24, 38] σ (sA 37 (σ.1 30) ((σ.1 31) + 1) (sS 31 ((σ.1 31) + 1) σ)) from ((Fr.rfl.S (by decide)).A (by decide))).trans z1) z2 z3 z4 z5 z6) _  rfl)
    · refine tm_aload_n dX12_statement_76 rfl 1 rfl ?_
      refine tm_iconst dX12_statement_77 ?_
      refine tm_iload_n dX12_statement_78 rfl 0 rfl ?_
      refine tm_callV (M := m_X12_statement) (pc := 79) (ix := 274) (M' := m_X12_note) (As := [.int (iI 5), .int (iI p)]) (rest := []) dX12_statement_79 ok_X12_note im_X12_note se_X12_note ml12_274 np_X12_note rfl rfl (Nat.le_of_ble_eq_true rfl) (Nat.le_of_ble_eq_true rfl) rfl (c2_X12_note (d + 3 * lv + 44) (σ := (sS 31 ((σ.1 31) + 1) σ)) (f := 5) (p := p) (hR.S (by omega)) (by omega) (by omega)) (fun r13 σ14 hp => ?_)
      obtain ⟨rfl, f16, f17, f18, f19, f20⟩ := hp
      show Tm _ _ 82 b σ14 [(1, .int (iI p)), (0, .ref b)] [] _
      have nt2 := f18
      have nt4 := f20
      refine tm_aload_n dX12_statement_82 rfl 1 rfl ?_
      refine tm_callV (M := m_X12_statement) (pc := 83) (ix := 271) (M' := m_X12_isKept) (As := []) (rest := []) dX12_statement_83 ok_X12_isKept im_X12_isKept se_X12_isKept ml12_271 np_X12_isKept rfl rfl (Nat.le_of_ble_eq_true rfl) (Nat.le_of_ble_eq_true rfl) rfl (c_X12_isKept (d + 3 * lv + 44) (σ := σ14)  f17) (fun r21 σ22 hp => ?_)
      obtain ⟨v23, rfl, rfl, f24, f25⟩ := hp
      show Tm _ _ 86 b σ14 [(1, .int (iI p)), (0, .ref b)] [.int (iI v23)] _
      have k30 : σ14.1 30 = σ.1 30 := rs_F f16 (by decide) (rs_o (by decide) (rfl))
      refine tm_if_eq (tgt := 114) dX12_statement_86 (by decide) ⟨by omega, by omega⟩ (fun h32 => ?_) (fun h32 => ?_)
      · refine tm_sub [1] rfl (b_stm114 (d) (σ := σ14) (ρ := σ) hcb f17 ⟨hrd, hnn, ((Fr.rfl.S (by decide)).trans (Fr.sub f16 (by decide) (by decide) (by decide))), PBF.of hnn (show Fr [26, 27, 31] [37] [] σ σ14 from ((Fr.rfl.S (by decide)).trans (Fr.sub f16 (by decide) (by decide) (by decide)))) (by decide) (by decide) (by decide) nt2, ⟨by rw [show σ14.1 34 = σ.1 34 from rs_F f16 (by decide) (rs_o (by decide) (rfl))]; omega, rs_F f16 (by decide) (rs_eq)⟩, by rcases hw0 with z | z | z | z | z <;> (have q := z.1; omega), ((srt_fr (Fr.rfl : Fr [] [37] [] σ14 σ14) (by decide) (by decide) (by decide)).trans (by rw [nt4]; unfold lnP; rw [if_pos (by omega), hp]))⟩ hw0 ((show σ14.1 28 = σ.1 28 from rs_F f16 (by decide) (rs_o (by decide) (rfl))).trans k28) ((show σ14.1 29 = σ.1 29 from rs_F f16 (by decide) (rs_o (by decide) (rfl))).trans k29) (by rw [show σ14.1 43 = σ.1 43 from rs_F f16 (by decide) (rs_o (by decide) (rfl))]; exact ht) (fun v τ z1 z2 z3 z4 z5 z6 => hret v τ ((show Fr [19, 20, 22, 23, 26, 27, 28, 29, 31, 32, 33, 34, 39, 40] [3, 4, 5, 6, 7, 8, 35, 37, 41, 42] [24, 38] σ σ14 from ((Fr.rfl.S (by decide)).trans (Fr.sub f16 (by decide) (by decide) (by decide)))).trans z1) z2 z3 z4 z5 z6) _  rfl)
      · refine tm_aload_n dX12_statement_89 rfl 1 rfl ?_
        refine tm_get (k := 37) (v := .ref (b + 1 + 18)) lay_12 dX12_statement_90 (by decide) fl12_69 rfl ?_
        refine tm_aload_n dX12_statement_93 rfl 1 rfl ?_
        refine tm_getS (k := 30) (t := σ.1 30) dX12_statement_94 (by decide) fl12_268 rfl (rs_F f16 (by decide) (rs_o (by decide) (rfl))) ?_
        have g33 := RG.s hR 30
        refine tm_iald (z := σ.1 30) (v := σ.2.1 37 (σ.1 30)) dX12_statement_97 (show mT[18]? = some (37, 0, 6) from rfl) (by omega) (by omega) (by decide) (ra_F f16 (by decide) (ra_S (rfl))) ?_
        have g34 := RG.a hR 37 (σ.1 30)
        refine tm_if_ne (tgt := 114) dX12_statement_98 (by decide) ⟨by omega, by omega⟩ (fun h35 => ?_) (fun h35 => ?_)
        · refine tm_sub [1] rfl (b_stm114 (d) (σ := σ14) (ρ := σ) hcb f17 ⟨hrd, hnn, ((Fr.rfl.S (by decide)).trans (Fr.sub f16 (by decide) (by decide) (by decide))), PBF.of hnn (show Fr [26, 27, 31] [37] [] σ σ14 from ((Fr.rfl.S (by decide)).trans (Fr.sub f16 (by decide) (by decide) (by decide)))) (by decide) (by decide) (by decide) nt2, ⟨by rw [show σ14.1 34 = σ.1 34 from rs_F f16 (by decide) (rs_o (by decide) (rfl))]; omega, rs_F f16 (by decide) (rs_eq)⟩, by rcases hw0 with z | z | z | z | z <;> (have q := z.1; omega), ((srt_fr (Fr.rfl : Fr [] [37] [] σ14 σ14) (by decide) (by decide) (by decide)).trans (by rw [nt4]; unfold lnP; rw [if_pos (by omega), hp]))⟩ hw0 ((show σ14.1 28 = σ.1 28 from rs_F f16 (by decide) (rs_o (by decide) (rfl))).trans k28) ((show σ14.1 29 = σ.1 29 from rs_F f16 (by decide) (rs_o (by decide) (rfl))).trans k29) (by rw [show σ14.1 43 = σ.1 43 from rs_F f16 (by decide) (rs_o (by decide) (rfl))]; exact ht) (fun v τ z1 z2 z3 z4 z5 z6 => hret v τ ((show Fr [19, 20, 22, 23, 26, 27, 28, 29, 31, 32, 33, 34, 39, 40] [3, 4, 5, 6, 7, 8, 35, 37, 41, 42] [24, 38] σ σ14 from ((Fr.rfl.S (by decide)).trans (Fr.sub f16 (by decide) (by decide) (by decide)))).trans z1) z2 z3 z4 z5 z6) _  rfl)
        · refine tm_aload_n dX12_statement_101 rfl 1 rfl ?_
          refine tm_get (k := 37) (v := .ref (b + 1 + 18)) lay_12 dX12_statement_102 (by decide) fl12_69 rfl ?_
          refine tm_aload_n dX12_statement_105 rfl 1 rfl ?_
          refine tm_getS (k := 30) (t := σ.1 30) dX12_statement_106 (by decide) fl12_268 rfl (rs_F f16 (by decide) (rs_o (by decide) (rfl))) ?_
          have g36 := RG.s hR 30
          refine tm_aload_n dX12_statement_109 rfl 1 rfl ?_
          refine tm_getS (k := 31) (t := (σ.1 31) + 1) dX12_statement_110 (by decide) fl12_343 rfl (rs_F f16 (by decide) (rs_eq)) ?_
          refine tm_iast (z := σ.1 30) (v := (σ.1 31) + 1) dX12_statement_113 (show mT[18]? = some (37, 0, 6) from rfl) (by omega) (by omega) (by decide) ?_
          refine tm_sub [1] rfl (b_stm114 (d) (σ := (sA 37 (σ.1 30) ((σ.1 31) + 1) σ14)) (ρ := σ) hcb (f17.A (by omega)) ⟨hrd, hnn, (((Fr.rfl.S (by decide)).trans (Fr.sub f16 (by decide) (by decide) (by decide))).A (by decide)), PBF.of hnn (show Fr [26, 27, 31] [37] [] σ (sA 37 (σ.1 30) ((σ.1 31) + 1) σ14) from (((Fr.rfl.S (by decide)).trans (Fr.sub f16 (by decide) (by decide) (by decide))).A (by decide))) (by decide) (by decide) (by decide) nt2, ⟨by rw [show (sA 37 (σ.1 30) ((σ.1 31) + 1) σ14).1 34 = σ.1 34 from rs_A (rs_F f16 (by decide) (rs_o (by decide) (rfl)))]; omega, rs_A (rs_F f16 (by decide) (rs_eq))⟩, by rcases hw0 with z | z | z | z | z <;> (have q := z.1; omega), ((srt_fr (show Fr [] [37] [] σ14 (sA 37 (σ.1 30) ((σ.1 31) + 1) σ14) from (Fr.rfl.A (by decide))) (by decide) (by decide) (by decide)).trans (by rw [nt4]; unfold lnP; rw [if_pos (by omega), hp]))⟩ hw0 ((show (sA 37 (σ.1 30) ((σ.1 31) + 1) σ14).1 28 = σ.1 28 from rs_A (rs_F f16 (by decide) (rs_o (by decide) (rfl)))).trans k28) ((show (sA 37 (σ.1 30) ((σ.1 31) + 1) σ14).1 29 = σ.1 29 from rs_A (rs_F f16 (by decide) (rs_o (by decide) (rfl)))).trans k29) (by rw [show (sA 37 (σ.1 30) ((σ.1 31) + 1) σ14).1 43 = σ.1 43 from rs_A (rs_F f16 (by decide) (rs_o (by decide) (rfl)))]; exact ht) (fun v τ z1 z2 z3 z4 z5 z6 => hret v τ ((show Fr [19, 20, 22, 23, 26, 27, 28, 29, 31, 32, 33, 34, 39, 40] [3, 4, 5, 6, 7, 8, 35, 37, 41, 42] [24, 38] σ (sA 37 (σ.1 30) ((σ.1 31) + 1) σ14) from (((Fr.rfl.S (by decide)).trans (Fr.sub f16 (by decide) (by decide) (by decide))).A (by decide))).trans z1) z2 z3 z4 z5 z6) _  rfl)
theorem dX12_statement_0 : decode cX12_statement 0 = .ok (.aload_n 0, 1) := by decide +kernel
theorem dX12_statement_1 : decode cX12_statement 1 = .ok (.getfield 216, 3) := by decide +kernel
theorem dX12_statement_4 : decode cX12_statement 4 = .ok (.istore_n 1, 1) := by decide +kernel
theorem dX12_statement_5 : decode cX12_statement 5 = .ok (.aload_n 0, 1) := by decide +kernel
theorem dX12_statement_6 : decode cX12_statement 6 = .ok (.invokevirtual 320, 3) := by decide +kernel
theorem dX12_statement_9 : decode cX12_statement 9 = .ok (.ifCond .ne 48, 3) := by decide +kernel
theorem dX12_statement_12 : decode cX12_statement 12 = .ok (.aload_n 0, 1) := by decide +kernel
theorem dX12_statement_13 : decode cX12_statement 13 = .ok (.ldc2_w 242, 3) := by decide +kernel
theorem dX12_statement_16 : decode cX12_statement 16 = .ok (.invokevirtual 339, 3) := by decide +kernel
theorem dX12_statement_19 : decode cX12_statement 19 = .ok (.ifCond .ne 38, 3) := by decide +kernel
theorem dX12_statement_22 : decode cX12_statement 22 = .ok (.aload_n 0, 1) := by decide +kernel
theorem dX12_statement_23 : decode cX12_statement 23 = .ok (.ldc2_w 244, 3) := by decide +kernel
theorem dX12_statement_26 : decode cX12_statement 26 = .ok (.invokevirtual 339, 3) := by decide +kernel
theorem dX12_statement_29 : decode cX12_statement 29 = .ok (.ifCond .ne 28, 3) := by decide +kernel
theorem dX12_statement_32 : decode cX12_statement 32 = .ok (.aload_n 0, 1) := by decide +kernel
theorem dX12_statement_33 : decode cX12_statement 33 = .ok (.ldc2_w 246, 3) := by decide +kernel
theorem dX12_statement_36 : decode cX12_statement 36 = .ok (.invokevirtual 339, 3) := by decide +kernel
theorem dX12_statement_39 : decode cX12_statement 39 = .ok (.ifCond .ne 18, 3) := by decide +kernel
theorem dX12_statement_42 : decode cX12_statement 42 = .ok (.aload_n 0, 1) := by decide +kernel
theorem dX12_statement_43 : decode cX12_statement 43 = .ok (.ldc2_w 250, 3) := by decide +kernel
theorem dX12_statement_46 : decode cX12_statement 46 = .ok (.invokevirtual 339, 3) := by decide +kernel
theorem dX12_statement_49 : decode cX12_statement 49 = .ok (.ifCond .ne 8, 3) := by decide +kernel
theorem dX12_statement_52 : decode cX12_statement 52 = .ok (.aload_n 0, 1) := by decide +kernel
theorem dX12_statement_53 : decode cX12_statement 53 = .ok (.invokevirtual 261, 3) := by decide +kernel
theorem dX12_statement_56 : decode cX12_statement 56 = .ok (.ireturn, 1) := by decide +kernel
set_option maxHeartbeats 4000000 in
set_option maxRecDepth 20000 in
theorem c_X12_statement (d : Nat) {b : Nat} {σ : MS} {lv : Nat} (hcb : ∀ (d : Nat) {b : Nat} {σ : MS} (hR : RG σ) (hrd : RDY σ) (hnn : NN σ) (h28 : σ.1 28 = 0) (h29 : σ.1 29 = 6 - (lv : Int)) (ht : 0 ≤ σ.1 43 ∧ σ.1 43 ≤ 260), Tm (d + 3 * lv + 44) m_X12_block 0 b σ [(0, .ref b)] [] (fun ro σ2 => ∃ v : Int, ro = some (.int (iI v)) ∧ ((v = 0 ∨ v = 1)) ∧ (Fr [19, 20, 22, 23, 26, 27, 28, 29, 31, 32, 33, 34, 39, 40] [3, 4, 5, 6, 7, 8, 35, 37, 41, 42] [24, 38] σ σ2) ∧ (RG σ2) ∧ (PBF σ σ2) ∧ (Im v 1 (BLQ 28 4 σ σ2)) ∧ (Im v 0 (∀ c : Int, GOF [28] σ (qq c) σ2)))) (hR : RG σ) (hrd : RDY σ) (hnn : NN σ) (h28 : σ.1 28 = 0) (h29 : σ.1 29 = 6 - (lv : Int)) (ht : 0 ≤ σ.1 43 ∧ σ.1 43 ≤ 260) : Tm (d + 3 * lv + 46) m_X12_statement 0 b σ [(0, .ref b)] [] (fun ro σ2 => ∃ v : Int, ro = some (.int (iI v)) ∧ ((v = 0 ∨ v = 1)) ∧ (Fr [19, 20, 22, 23, 26, 27, 28, 29, 31, 32, 33, 34, 39, 40] [3, 4, 5, 6, 7, 8, 35, 37, 41, 42] [24, 38] σ σ2) ∧ (RG σ2) ∧ (PBF σ σ2) ∧ (Im v 1 (BLQ 20 2 σ σ2)) ∧ (Im v 0 (∀ c : Int, GOF [20] σ (qq c) σ2))) := by
  have rd0 := hrd.2
  have tk0 := hrd.1.1
  have k28 := h28
  have k29 := h29
  refine tm_aload_n dX12_statement_0 rfl 0 rfl ?_
  refine tm_getS (k := 19) (t := σ.1 19) dX12_statement_1 (by decide) fl12_216 rfl (rfl) ?_
  have g1 := RG.s hR 19
  refine tm_istore_n (L' := [(1, .int (iI (σ.1 19))), (0, .ref b)]) dX12_statement_4 rfl (by decide) rfl ?_
  refine tm_aload_n dX12_statement_5 rfl 1 rfl ?_
  refine tm_callV (M := m_X12_statement) (pc := 6) (ix := 320) (M' := m_X12_isName) (As := []) (rest := []) dX12_statement_6 ok_X12_isName im_X12_isName se_X12_isName ml12_320 np_X12_isName rfl rfl (Nat.le_of_ble_eq_true rfl) (Nat.le_of_ble_eq_true rfl) rfl (c2_X12_isName (d + 3 * lv + 44) (σ := σ)  hR) (fun r2 σ3 hp => ?_)
  obtain ⟨v4, rfl, rfl, f5, f6, f7⟩ := hp
  show Tm _ _ 9 b σ [(1, .int (iI (σ.1 19))), (0, .ref b)] [.int (iI v4)] _
  have q0 := f6
  have n0_ := f7
  refine tm_if_ne (tgt := 57) dX12_statement_9 (by decide) ⟨by omega, by omega⟩ (fun h8 => ?_) (fun h8 => ?_)
  · refine tm_sub [0, 1] rfl (b_stm57 (d) (σ := σ) (p := σ.1 19) hcb hR hrd hnn k28 k29 ht (Or.inl (q0 (by omega))) rfl (by omega) (fun v τ z1 z2 z3 z4 z5 z6 => ⟨_, rfl, z3, z1, z2, z4, z5, z6⟩) _  rfl)
  · refine tm_aload_n dX12_statement_12 rfl 1 rfl ?_
    refine tm_ldc2 dX12_statement_13 cst12_242 ?_
    refine tm_callV (M := m_X12_statement) (pc := 16) (ix := 339) (M' := m_X12_isWord) (As := [.long (7304564)]) (rest := []) dX12_statement_16 ok_X12_isWord im_X12_isWord se_X12_isWord ml12_339 np_X12_isWord rfl rfl (Nat.le_of_ble_eq_true rfl) (Nat.le_of_ble_eq_true rfl) rfl (c2_X12_isWord (d + 3 * lv + 44) (σ := σ) (w := 7304564) hR) (fun r9 σ10 hp => ?_)
    obtain ⟨v11, rfl, rfl, f12, f13, f14⟩ := hp
    show Tm _ _ 19 b σ [(1, .int (iI (σ.1 19))), (0, .ref b)] [.int (iI v11)] _
    have q1 := f13
    have n1_ := f14
    refine tm_if_ne (tgt := 57) dX12_statement_19 (by decide) ⟨by omega, by omega⟩ (fun h15 => ?_) (fun h15 => ?_)
    · refine tm_sub [0, 1] rfl (b_stm57 (d) (σ := σ) (p := σ.1 19) hcb hR hrd hnn k28 k29 ht (Or.inr (Or.inl (q1 (by omega)))) rfl (by omega) (fun v τ z1 z2 z3 z4 z5 z6 => ⟨_, rfl, z3, z1, z2, z4, z5, z6⟩) _  rfl)
    · refine tm_aload_n dX12_statement_22 rfl 1 rfl ?_
      refine tm_ldc2 dX12_statement_23 cst12_244 ?_
      refine tm_callV (M := m_X12_statement) (pc := 26) (ix := 339) (M' := m_X12_isWord) (As := [.long (125780071117422)]) (rest := []) dX12_statement_26 ok_X12_isWord im_X12_isWord se_X12_isWord ml12_339 np_X12_isWord rfl rfl (Nat.le_of_ble_eq_true rfl) (Nat.le_of_ble_eq_true rfl) rfl (c2_X12_isWord (d + 3 * lv + 44) (σ := σ) (w := 125780071117422) hR) (fun r16 σ17 hp => ?_)
      obtain ⟨v18, rfl, rfl, f19, f20, f21⟩ := hp
      show Tm _ _ 29 b σ [(1, .int (iI (σ.1 19))), (0, .ref b)] [.int (iI v18)] _
      have q2 := f20
      have n2_ := f21
      refine tm_if_ne (tgt := 57) dX12_statement_29 (by decide) ⟨by omega, by omega⟩ (fun h22 => ?_) (fun h22 => ?_)
      · refine tm_sub [0, 1] rfl (b_stm57 (d) (σ := σ) (p := σ.1 19) hcb hR hrd hnn k28 k29 ht (Or.inr (Or.inr (Or.inl (q2 (by omega))))) rfl (by omega) (fun v τ z1 z2 z3 z4 z5 z6 => ⟨_, rfl, z3, z1, z2, z4, z5, z6⟩) _  rfl)
      · refine tm_aload_n dX12_statement_32 rfl 1 rfl ?_
        refine tm_ldc2 dX12_statement_33 cst12_246 ?_
        refine tm_callV (M := m_X12_statement) (pc := 36) (ix := 339) (M' := m_X12_isWord) (As := [.long (26982)]) (rest := []) dX12_statement_36 ok_X12_isWord im_X12_isWord se_X12_isWord ml12_339 np_X12_isWord rfl rfl (Nat.le_of_ble_eq_true rfl) (Nat.le_of_ble_eq_true rfl) rfl (c2_X12_isWord (d + 3 * lv + 44) (σ := σ) (w := 26982) hR) (fun r23 σ24 hp => ?_)
        obtain ⟨v25, rfl, rfl, f26, f27, f28⟩ := hp
        show Tm _ _ 39 b σ [(1, .int (iI (σ.1 19))), (0, .ref b)] [.int (iI v25)] _
        have q3 := f27
        have n3_ := f28
        refine tm_if_ne (tgt := 57) dX12_statement_39 (by decide) ⟨by omega, by omega⟩ (fun h32 => ?_) (fun h32 => ?_)
        · refine tm_sub [0, 1] rfl (b_stm57 (d) (σ := σ) (p := σ.1 19) hcb hR hrd hnn k28 k29 ht (Or.inr (Or.inr (Or.inr (Or.inl (q3 (by omega)))))) rfl (by omega) (fun v τ z1 z2 z3 z4 z5 z6 => ⟨_, rfl, z3, z1, z2, z4, z5, z6⟩) _  rfl)
        · refine tm_aload_n dX12_statement_42 rfl 1 rfl ?_
          refine tm_ldc2 dX12_statement_43 cst12_250 ?_
          refine tm_callV (M := m_X12_statement) (pc := 46) (ix := 339) (M' := m_X12_isWord) (As := [.long (512852847717)]) (rest := []) dX12_statement_46 ok_X12_isWord im_X12_isWord se_X12_isWord ml12_339 np_X12_isWord rfl rfl (Nat.le_of_ble_eq_true rfl) (Nat.le_of_ble_eq_true rfl) rfl (c2_X12_isWord (d + 3 * lv + 44) (σ := σ) (w := 512852847717) hR) (fun r33 σ34 hp => ?_)
          obtain ⟨v35, rfl, rfl, f36, f37, f38⟩ := hp
          show Tm _ _ 49 b σ [(1, .int (iI (σ.1 19))), (0, .ref b)] [.int (iI v35)] _
          have q4 := f37
          have n4_ := f38
          refine tm_if_ne (tgt := 57) dX12_statement_49 (by decide) ⟨by omega, by omega⟩ (fun h39 => ?_) (fun h39 => ?_)
          · refine tm_sub [0, 1] rfl (b_stm57 (d) (σ := σ) (p := σ.1 19) hcb hR hrd hnn k28 k29 ht (Or.inr (Or.inr (Or.inr (Or.inr ((q4 (by omega))))))) rfl (by omega) (fun v τ z1 z2 z3 z4 z5 z6 => ⟨_, rfl, z3, z1, z2, z4, z5, z6⟩) _  rfl)
          · refine tm_aload_n dX12_statement_52 rfl 1 rfl ?_
            refine tm_callV (M := m_X12_statement) (pc := 53) (ix := 261) (M' := m_X12_wrong) (As := []) (rest := []) dX12_statement_53 ok_X12_wrong im_X12_wrong se_X12_wrong ml12_261 np_X12_wrong rfl rfl (Nat.le_of_ble_eq_true rfl) (Nat.le_of_ble_eq_true rfl) rfl (c_X12_wrong (d + 3 * lv + 44) (σ := σ)  hR) (fun r40 σ41 hp => ?_)
            obtain ⟨v42, rfl, f43, f44, f45, f46, f47, f48⟩ := hp
            show Tm _ _ 56 b σ41 [(1, .int (iI (σ.1 19))), (0, .ref b)] [.int (iI v42)] _
            exact tm_zret (v := v42) rfl (by omega) dX12_statement_56 (⟨_, rfl, by omega, (Fr.rfl.trans (Fr.sub f44 (by decide) (by decide) (by decide))), f45, ((TS.start hrd hnn : TS 20 0 σ [20] σ qq []).fail (PBF.of hnn f44 (by decide) (by decide) (by decide) (FLT.wr f47 f48)) (g20f (n4_ (by omega)) (n3_ (by omega)) (n1_ (by omega)) (n2_ (by omega)) (n0_ (by omega)) (WRG.of f48))).1, fun q => absurd q (by omega), fun _ => ((TS.start hrd hnn : TS 20 0 σ [20] σ qq []).fail (PBF.of hnn f44 (by decide) (by decide) (by decide) (FLT.wr f47 f48)) (g20f (n4_ (by omega)) (n3_ (by omega)) (n1_ (by omega)) (n2_ (by omega)) (n0_ (by omega)) (WRG.of f48))).2⟩)
