section
theorem ml12_388 : Cond.methodLink RX12 388 yX12_goOver ∈ pWW := pw8 (List.mem_of_getElem? (i := 47) rfl) rfl
theorem dX12_read_0 : decode cX12_read 0 = .ok (.aload_n 0, 1) := by decide +kernel
theorem dX12_read_1 : decode cX12_read 1 = .ok (.iconst 0, 1) := by decide +kernel
theorem dX12_read_2 : decode cX12_read 2 = .ok (.putfield 185, 3) := by decide +kernel
theorem dX12_read_5 : decode cX12_read 5 = .ok (.aload_n 0, 1) := by decide +kernel
theorem dX12_read_6 : decode cX12_read 6 = .ok (.aload_n 0, 1) := by decide +kernel
theorem dX12_read_7 : decode cX12_read 7 = .ok (.getfield 382, 3) := by decide +kernel
theorem dX12_read_10 : decode cX12_read 10 = .ok (.putfield 207, 3) := by decide +kernel
theorem dX12_read_13 : decode cX12_read 13 = .ok (.aload_n 0, 1) := by decide +kernel
theorem dX12_read_14 : decode cX12_read 14 = .ok (.iconst 0, 1) := by decide +kernel
theorem dX12_read_15 : decode cX12_read 15 = .ok (.putfield 382, 3) := by decide +kernel
theorem dX12_read_18 : decode cX12_read 18 = .ok (.aload_n 0, 1) := by decide +kernel
theorem dX12_read_19 : decode cX12_read 19 = .ok (.iconst 0, 1) := by decide +kernel
theorem dX12_read_20 : decode cX12_read 20 = .ok (.putfield 252, 3) := by decide +kernel
theorem dX12_read_23 : decode cX12_read 23 = .ok (.aload_n 0, 1) := by decide +kernel
theorem dX12_read_24 : decode cX12_read 24 = .ok (.iconst (-1), 1) := by decide +kernel
theorem dX12_read_25 : decode cX12_read 25 = .ok (.putfield 59, 3) := by decide +kernel
theorem dX12_read_28 : decode cX12_read 28 = .ok (.aload_n 0, 1) := by decide +kernel
theorem dX12_read_29 : decode cX12_read 29 = .ok (.iconst 0, 1) := by decide +kernel
theorem dX12_read_30 : decode cX12_read 30 = .ok (.invokevirtual 388, 3) := by decide +kernel
theorem dX12_read_33 : decode cX12_read 33 = .ok (.ifCond .eq 23, 3) := by decide +kernel
theorem dX12_read_56 : decode cX12_read 56 = .ok (.iconst 0, 1) := by decide +kernel
theorem dX12_read_57 : decode cX12_read 57 = .ok (.istore_n 1, 1) := by decide +kernel
theorem dX12_read_58 : decode cX12_read 58 = .ok (.aload_n 0, 1) := by decide +kernel
theorem dX12_read_59 : decode cX12_read 59 = .ok (.getfield 252, 3) := by decide +kernel
theorem dX12_read_62 : decode cX12_read 62 = .ok (.ifCond .gt 7, 3) := by decide +kernel
theorem dX12_read_69 : decode cX12_read 69 = .ok (.iconst (-1), 1) := by decide +kernel
theorem dX12_read_70 : decode cX12_read 70 = .ok (.ireturn, 1) := by decide +kernel
theorem dX12_read_65 : decode cX12_read 65 = .ok (.iload_n 1, 1) := by decide +kernel
theorem dX12_read_66 : decode cX12_read 66 = .ok (.ifCond .ne 5, 3) := by decide +kernel
theorem dX12_read_36 : decode cX12_read 36 = .ok (.aload_n 0, 1) := by decide +kernel
theorem dX12_read_37 : decode cX12_read 37 = .ok (.iconst 1, 1) := by decide +kernel
theorem dX12_read_38 : decode cX12_read 38 = .ok (.invokevirtual 388, 3) := by decide +kernel
theorem dX12_read_41 : decode cX12_read 41 = .ok (.ifCond .eq 15, 3) := by decide +kernel
theorem dX12_read_44 : decode cX12_read 44 = .ok (.aload_n 0, 1) := by decide +kernel
theorem dX12_read_45 : decode cX12_read 45 = .ok (.iconst 2, 1) := by decide +kernel
theorem dX12_read_46 : decode cX12_read 46 = .ok (.invokevirtual 388, 3) := by decide +kernel
theorem dX12_read_49 : decode cX12_read 49 = .ok (.ifCond .eq 7, 3) := by decide +kernel
theorem dX12_read_52 : decode cX12_read 52 = .ok (.iconst 1, 1) := by decide +kernel
theorem dX12_read_53 : decode cX12_read 53 = .ok (.goto 4, 3) := by decide +kernel
theorem dX12_read_71 : decode cX12_read 71 = .ok (.aload_n 0, 1) := by decide +kernel
theorem dX12_read_72 : decode cX12_read 72 = .ok (.aload_n 0, 1) := by decide +kernel
theorem dX12_read_73 : decode cX12_read 73 = .ok (.getfield 268, 3) := by decide +kernel
theorem dX12_read_76 : decode cX12_read 76 = .ok (.putfield 391, 3) := by decide +kernel
theorem dX12_read_79 : decode cX12_read 79 = .ok (.iconst 0, 1) := by decide +kernel
theorem dX12_read_80 : decode cX12_read 80 = .ok (.istore_n 2, 1) := by decide +kernel
theorem dX12_read_119 : decode cX12_read 119 = .ok (.aload_n 0, 1) := by decide +kernel
theorem dX12_read_120 : decode cX12_read 120 = .ok (.iconst 3, 1) := by decide +kernel
theorem dX12_read_121 : decode cX12_read 121 = .ok (.invokevirtual 388, 3) := by decide +kernel
theorem dX12_read_124 : decode cX12_read 124 = .ok (.istore_n 1, 1) := by decide +kernel
theorem dX12_read_125 : decode cX12_read 125 = .ok (.iconst 0, 1) := by decide +kernel
theorem dX12_read_126 : decode cX12_read 126 = .ok (.istore_n 2, 1) := by decide +kernel
theorem dX12_read_269 : decode cX12_read 269 = .ok (.iconst 0, 1) := by decide +kernel
theorem dX12_read_270 : decode cX12_read 270 = .ok (.istore_n 2, 1) := by decide +kernel
theorem dX12_read_290 : decode cX12_read 290 = .ok (.aload_n 0, 1) := by decide +kernel
theorem dX12_read_291 : decode cX12_read 291 = .ok (.iconst 0, 1) := by decide +kernel
theorem dX12_read_292 : decode cX12_read 292 = .ok (.putfield 397, 3) := by decide +kernel
theorem dX12_read_295 : decode cX12_read 295 = .ok (.aload_n 0, 1) := by decide +kernel
theorem dX12_read_296 : decode cX12_read 296 = .ok (.getfield 391, 3) := by decide +kernel
theorem dX12_read_299 : decode cX12_read 299 = .ok (.ireturn, 1) := by decide +kernel
set_option maxHeartbeats 4000000 in
set_option maxRecDepth 20000 in
theorem c_X12_read (d : Nat) {b : Nat} {σ : MS} (hR : RG σ) (hsz : 0 ≤ σ.1 2 ∧ σ.1 2 ≤ 1200) (hnn : NN σ) (h43 : 0 ≤ σ.1 43 ∧ σ.1 43 ≤ 260) (hrh : RDH σ) : Tm (d + 65) m_X12_read 0 b σ [(0, .ref b)] [] (fun ro σ2 => ∃ v : Int, ro = some (.int (iI v)) ∧ (Fr [0, 2, 10, 19, 20, 21, 22, 23, 25, 26, 27, 28, 29, 30, 31, 32, 33, 34, 39, 40, 43, 67] [3, 4, 5, 6, 7, 8, 9, 11, 12, 13, 14, 15, 16, 17, 18, 35, 36, 37, 41, 42, 45, 48] [24, 38, 44] σ σ2) ∧ (RG σ2) ∧ (σ2.1 2 = 0) ∧ (NN σ2) ∧ (0 ≤ σ2.1 43 ∧ σ2.1 43 ≤ 260) ∧ (RDQ σ σ2) ∧ (RQ9 (sv (sS 21 (σ.1 2) σ)) v (σ2.1 26) (σ2.1 27) (σ.1 10) (σ2.1 10)) ∧ (RD6 (sv (sS 21 (σ.1 2) σ)) σ σ2 v) ∧ (RD8 σ2 v)) := by
  refine tm_aload_n dX12_read_0 rfl 0 rfl ?_
  refine tm_iconst dX12_read_1 ?_
  refine tm_putS (k := 0) (v := 0) lay_12 dX12_read_2 (by decide) fl12_185 rfl (tyX12_ok 0 (by decide)) rfl rfl rfl ?_
  refine tm_aload_n dX12_read_5 rfl 0 rfl ?_
  refine tm_aload_n dX12_read_6 rfl 0 rfl ?_
  refine tm_getS (k := 2) (t := σ.1 2) dX12_read_7 (by decide) fl12_382 rfl (rs_o (by decide) (rfl)) ?_
  have g1 := RG.s hR 2
  refine tm_putS (k := 21) (v := σ.1 2) lay_12 dX12_read_10 (by decide) fl12_207 rfl (tyX12_ok 21 (by decide)) rfl rfl rfl ?_
  refine tm_aload_n dX12_read_13 rfl 0 rfl ?_
  refine tm_iconst dX12_read_14 ?_
  refine tm_putS (k := 2) (v := 0) lay_12 dX12_read_15 (by decide) fl12_382 rfl (tyX12_ok 2 (by decide)) rfl rfl rfl ?_
  refine tm_aload_n dX12_read_18 rfl 0 rfl ?_
  refine tm_iconst dX12_read_19 ?_
  refine tm_putS (k := 26) (v := 0) lay_12 dX12_read_20 (by decide) fl12_252 rfl (tyX12_ok 26 (by decide)) rfl rfl rfl ?_
  refine tm_aload_n dX12_read_23 rfl 0 rfl ?_
  refine tm_iconst dX12_read_24 ?_
  refine tm_putS (k := 27) (v := -1) lay_12 dX12_read_25 (by decide) fl12_59 rfl (tyX12_ok 27 (by decide)) rfl rfl rfl ?_
  have k0 : KPR σ (sS 27 (-1) (sS 26 0 (sS 2 0 (sS 21 (σ.1 2) (sS 0 0 σ))))) := KPR.fr (show Fr [0, 2, 21, 26, 27] [] [] σ (sS 27 (-1) (sS 26 0 (sS 2 0 (sS 21 (σ.1 2) (sS 0 0 σ))))) from (((((Fr.rfl.S (by decide)).S (by decide)).S (by decide)).S (by decide)).S (by decide))) (by decide)
  have e21 : (sS 27 (-1) (sS 26 0 (sS 2 0 (sS 21 (σ.1 2) (sS 0 0 σ))))).1 21 = σ.1 2 := rfl
  refine tm_aload_n dX12_read_28 rfl 0 rfl ?_
  refine tm_iconst dX12_read_29 ?_
  refine tm_callV (M := m_X12_read) (pc := 30) (ix := 388) (M' := m_X12_goOver) (As := [.int (iI 0)]) (rest := []) dX12_read_30 ok_X12_goOver im_X12_goOver se_X12_goOver ml12_388 np_X12_goOver rfl rfl (Nat.le_of_ble_eq_true rfl) (Nat.le_of_ble_eq_true rfl) rfl (c_X12_goOver (d) (σ := (sS 27 (-1) (sS 26 0 (sS 2 0 (sS 21 (σ.1 2) (sS 0 0 σ)))))) (w := 0) (((((hR.S (by omega)).S (by omega)).S (by omega)).S (by omega)).S (by omega)) (by decide) (by rw [e21]; omega) hnn h43 (fun q => absurd q (by decide))) (fun r2 σ3 hp => ?_)
  obtain ⟨v4, rfl, f5, f6, f7, f8, f9, f10⟩ := hp
  show Tm _ _ 33 b σ3 [(0, .ref b)] [.int (iI v4)] _
  have ga0 := f5
  have ga1 := f6
  have ga2 := f7
  have ga3 := f8
  have ga4 := f9
  have ga5 := f10
  have k1 : KPR σ σ3 := k0.trans (ga3.kpr (by decide))
  have R1_ := f7
  have e211 : σ3.1 21 = σ.1 2 := (ga1.1 21 (by decide)).trans e21
  have g261 := RG.s R1_ 26
  refine tm_if_eq (tgt := 56) dX12_read_33 (by decide) ⟨by omega, by omega⟩ (fun h11 => ?_) (fun h11 => ?_)
  · refine tm_iconst dX12_read_56 ?_
    refine tm_istore_n (L' := [(1, .int (iI 0)), (0, .ref b)]) dX12_read_57 rfl (by decide) rfl ?_
    refine tm_aload_n dX12_read_58 rfl 1 rfl ?_
    refine tm_getS (k := 26) (t := σ3.1 26) dX12_read_59 (by decide) fl12_252 rfl (rfl) ?_
    have g12 := RG.s f7 26
    refine tm_if_gt (tgt := 69) dX12_read_62 (by decide) ⟨by omega, by omega⟩ (fun h13 => ?_) (fun h13 => ?_)
    · refine tm_iconst dX12_read_69 ?_
      have rq14s : sv (sS 27 (-1) (sS 26 0 (sS 2 0 (sS 21 (σ.1 2) (sS 0 0 σ))))) = sv (sS 21 (σ.1 2) σ) := rfl
      have rq14 : RQ9 (sv (sS 27 (-1) (sS 26 0 (sS 2 0 (sS 21 (σ.1 2) (sS 0 0 σ)))))) (-1) (σ3.1 26) (σ3.1 27) (σ.1 10) (σ.1 10) := RM9.fl rfl (ga5 (by omega))
      exact tm_iret rfl dX12_read_70 (⟨_, rfl, ((((((Fr.rfl.S (by decide)).S (by decide)).S (by decide)).S (by decide)).S (by decide)).trans (Fr.sub f6 (by decide) (by decide) (by decide))), f7, rs_F f6 (by decide) (rs_o (by decide) (rs_o (by decide) (rs_eq))), ga3.2.2.1, ga3.2.2.2.2, RDQ.keep hrh k1 (show Fr [0, 2, 19, 20, 21, 22, 23, 25, 26, 27, 28, 29, 30, 31, 32, 33, 34, 39, 40, 43] [3, 4, 5, 6, 7, 8, 9, 35, 36, 37, 41, 42, 45] [24, 38, 44] σ σ3 from ((((((Fr.rfl.S (by decide)).S (by decide)).S (by decide)).S (by decide)).S (by decide)).trans (Fr.sub f6 (by decide) (by decide) (by decide)))), by rw [(show σ3.1 10 = σ.1 10 from rs_F f6 (by decide) (rs_o (by decide) (rs_o (by decide) (rs_o (by decide) (rs_o (by decide) (rs_o (by decide) (rfl))))))), ← rq14s]; exact rq14, ⟨fun _ => ⟨k1, (show Fr [0, 2, 19, 20, 21, 22, 23, 25, 26, 27, 28, 29, 30, 31, 32, 33, 34, 39, 40, 43] [3, 4, 5, 6, 7, 8, 9, 35, 36, 37, 41, 42, 45] [24, 38, 44] σ σ3 from ((((((Fr.rfl.S (by decide)).S (by decide)).S (by decide)).S (by decide)).S (by decide)).trans (Fr.sub f6 (by decide) (by decide) (by decide))))⟩, fun z => absurd rfl z⟩, fun z => absurd rfl z⟩)
    · refine tm_iload_n dX12_read_65 rfl 0 rfl ?_
      refine tm_if_ne (tgt := 71) dX12_read_66 (by decide) ⟨by decide, by decide⟩ (fun h => absurd h (by decide)) (fun _ => ?_)
      refine tm_iconst dX12_read_69 ?_
      have rq16s : sv (sS 27 (-1) (sS 26 0 (sS 2 0 (sS 21 (σ.1 2) (sS 0 0 σ))))) = sv (sS 21 (σ.1 2) σ) := rfl
      have rq16 : RQ9 (sv (sS 27 (-1) (sS 26 0 (sS 2 0 (sS 21 (σ.1 2) (sS 0 0 σ)))))) (-1) (σ3.1 26) (σ3.1 27) (σ.1 10) (σ.1 10) := RM9.fl rfl (ga5 (by omega))
      exact tm_iret rfl dX12_read_70 (⟨_, rfl, ((((((Fr.rfl.S (by decide)).S (by decide)).S (by decide)).S (by decide)).S (by decide)).trans (Fr.sub f6 (by decide) (by decide) (by decide))), f7, rs_F f6 (by decide) (rs_o (by decide) (rs_o (by decide) (rs_eq))), ga3.2.2.1, ga3.2.2.2.2, RDQ.keep hrh k1 (show Fr [0, 2, 19, 20, 21, 22, 23, 25, 26, 27, 28, 29, 30, 31, 32, 33, 34, 39, 40, 43] [3, 4, 5, 6, 7, 8, 9, 35, 36, 37, 41, 42, 45] [24, 38, 44] σ σ3 from ((((((Fr.rfl.S (by decide)).S (by decide)).S (by decide)).S (by decide)).S (by decide)).trans (Fr.sub f6 (by decide) (by decide) (by decide)))), by rw [(show σ3.1 10 = σ.1 10 from rs_F f6 (by decide) (rs_o (by decide) (rs_o (by decide) (rs_o (by decide) (rs_o (by decide) (rs_o (by decide) (rfl))))))), ← rq16s]; exact rq16, ⟨fun _ => ⟨k1, (show Fr [0, 2, 19, 20, 21, 22, 23, 25, 26, 27, 28, 29, 30, 31, 32, 33, 34, 39, 40, 43] [3, 4, 5, 6, 7, 8, 9, 35, 36, 37, 41, 42, 45] [24, 38, 44] σ σ3 from ((((((Fr.rfl.S (by decide)).S (by decide)).S (by decide)).S (by decide)).S (by decide)).trans (Fr.sub f6 (by decide) (by decide) (by decide))))⟩, fun z => absurd rfl z⟩, fun z => absurd rfl z⟩)
  · refine tm_aload_n dX12_read_36 rfl 0 rfl ?_
    refine tm_iconst dX12_read_37 ?_
    refine tm_callV (M := m_X12_read) (pc := 38) (ix := 388) (M' := m_X12_goOver) (As := [.int (iI 1)]) (rest := []) dX12_read_38 ok_X12_goOver im_X12_goOver se_X12_goOver ml12_388 np_X12_goOver rfl rfl (Nat.le_of_ble_eq_true rfl) (Nat.le_of_ble_eq_true rfl) rfl (c_X12_goOver (d) (σ := σ3) (w := 1) R1_ (by decide) (by rw [e211]; omega) ga3.2.2.1 ga3.2.2.2.2 (fun q => absurd q (by decide))) (fun r17 σ18 hp => ?_)
    obtain ⟨v19, rfl, f20, f21, f22, f23, f24, f25⟩ := hp
    show Tm _ _ 41 b σ18 [(0, .ref b)] [.int (iI v19)] _
    have gb0 := f20
    have gb1 := f21
    have gb2 := f22
    have gb3 := f23
    have gb4 := f24
    have gb5 := f25
    have k2 : KPR σ σ18 := k1.trans (gb3.kpr (by decide))
    have R2_ := f22
    have e212 : σ18.1 21 = σ.1 2 := (gb1.1 21 (by decide)).trans e211
    have g262 := RG.s R2_ 26
    refine tm_if_eq (tgt := 56) dX12_read_41 (by decide) ⟨by omega, by omega⟩ (fun h32 => ?_) (fun h32 => ?_)
    · refine tm_iconst dX12_read_56 ?_
      refine tm_istore_n (L' := [(1, .int (iI 0)), (0, .ref b)]) dX12_read_57 rfl (by decide) rfl ?_
      refine tm_aload_n dX12_read_58 rfl 1 rfl ?_
      refine tm_getS (k := 26) (t := σ18.1 26) dX12_read_59 (by decide) fl12_252 rfl (rfl) ?_
      have g33 := RG.s f22 26
      refine tm_if_gt (tgt := 69) dX12_read_62 (by decide) ⟨by omega, by omega⟩ (fun h34 => ?_) (fun h34 => ?_)
      · refine tm_iconst dX12_read_69 ?_
        have rq35s : sv (sS 27 (-1) (sS 26 0 (sS 2 0 (sS 21 (σ.1 2) (sS 0 0 σ))))) = sv (sS 21 (σ.1 2) σ) := rfl
        have rq35 : RQ9 (sv (sS 27 (-1) (sS 26 0 (sS 2 0 (sS 21 (σ.1 2) (sS 0 0 σ)))))) (-1) (σ18.1 26) (σ18.1 27) (σ.1 10) (σ.1 10) := (GQ1.nofl (ga4 (by omega)) (sv_fr ga1 (by decide) (by decide)) (gb5 (by omega))).elim
        exact tm_iret rfl dX12_read_70 (⟨_, rfl, (((((((Fr.rfl.S (by decide)).S (by decide)).S (by decide)).S (by decide)).S (by decide)).trans (Fr.sub f6 (by decide) (by decide) (by decide))).trans (Fr.sub f21 (by decide) (by decide) (by decide))), f22, rs_F f21 (by decide) (rs_F f6 (by decide) (rs_o (by decide) (rs_o (by decide) (rs_eq)))), gb3.2.2.1, gb3.2.2.2.2, RDQ.keep hrh k2 (show Fr [0, 2, 19, 20, 21, 22, 23, 25, 26, 27, 28, 29, 30, 31, 32, 33, 34, 39, 40, 43] [3, 4, 5, 6, 7, 8, 9, 35, 36, 37, 41, 42, 45] [24, 38, 44] σ σ18 from (((((((Fr.rfl.S (by decide)).S (by decide)).S (by decide)).S (by decide)).S (by decide)).trans (Fr.sub f6 (by decide) (by decide) (by decide))).trans (Fr.sub f21 (by decide) (by decide) (by decide)))), by rw [(show σ18.1 10 = σ.1 10 from rs_F f21 (by decide) (rs_F f6 (by decide) (rs_o (by decide) (rs_o (by decide) (rs_o (by decide) (rs_o (by decide) (rs_o (by decide) (rfl)))))))), ← rq35s]; exact rq35, ⟨fun _ => ⟨k2, (show Fr [0, 2, 19, 20, 21, 22, 23, 25, 26, 27, 28, 29, 30, 31, 32, 33, 34, 39, 40, 43] [3, 4, 5, 6, 7, 8, 9, 35, 36, 37, 41, 42, 45] [24, 38, 44] σ σ18 from (((((((Fr.rfl.S (by decide)).S (by decide)).S (by decide)).S (by decide)).S (by decide)).trans (Fr.sub f6 (by decide) (by decide) (by decide))).trans (Fr.sub f21 (by decide) (by decide) (by decide))))⟩, fun z => absurd rfl z⟩, fun z => absurd rfl z⟩)
      · refine tm_iload_n dX12_read_65 rfl 0 rfl ?_
        refine tm_if_ne (tgt := 71) dX12_read_66 (by decide) ⟨by decide, by decide⟩ (fun h => absurd h (by decide)) (fun _ => ?_)
        refine tm_iconst dX12_read_69 ?_
        have rq37s : sv (sS 27 (-1) (sS 26 0 (sS 2 0 (sS 21 (σ.1 2) (sS 0 0 σ))))) = sv (sS 21 (σ.1 2) σ) := rfl
        have rq37 : RQ9 (sv (sS 27 (-1) (sS 26 0 (sS 2 0 (sS 21 (σ.1 2) (sS 0 0 σ)))))) (-1) (σ18.1 26) (σ18.1 27) (σ.1 10) (σ.1 10) := (GQ1.nofl (ga4 (by omega)) (sv_fr ga1 (by decide) (by decide)) (gb5 (by omega))).elim
        exact tm_iret rfl dX12_read_70 (⟨_, rfl, (((((((Fr.rfl.S (by decide)).S (by decide)).S (by decide)).S (by decide)).S (by decide)).trans (Fr.sub f6 (by decide) (by decide) (by decide))).trans (Fr.sub f21 (by decide) (by decide) (by decide))), f22, rs_F f21 (by decide) (rs_F f6 (by decide) (rs_o (by decide) (rs_o (by decide) (rs_eq)))), gb3.2.2.1, gb3.2.2.2.2, RDQ.keep hrh k2 (show Fr [0, 2, 19, 20, 21, 22, 23, 25, 26, 27, 28, 29, 30, 31, 32, 33, 34, 39, 40, 43] [3, 4, 5, 6, 7, 8, 9, 35, 36, 37, 41, 42, 45] [24, 38, 44] σ σ18 from (((((((Fr.rfl.S (by decide)).S (by decide)).S (by decide)).S (by decide)).S (by decide)).trans (Fr.sub f6 (by decide) (by decide) (by decide))).trans (Fr.sub f21 (by decide) (by decide) (by decide)))), by rw [(show σ18.1 10 = σ.1 10 from rs_F f21 (by decide) (rs_F f6 (by decide) (rs_o (by decide) (rs_o (by decide) (rs_o (by decide) (rs_o (by decide) (rs_o (by decide) (rfl)))))))), ← rq37s]; exact rq37, ⟨fun _ => ⟨k2, (show Fr [0, 2, 19, 20, 21, 22, 23, 25, 26, 27, 28, 29, 30, 31, 32, 33, 34, 39, 40, 43] [3, 4, 5, 6, 7, 8, 9, 35, 36, 37, 41, 42, 45] [24, 38, 44] σ σ18 from (((((((Fr.rfl.S (by decide)).S (by decide)).S (by decide)).S (by decide)).S (by decide)).trans (Fr.sub f6 (by decide) (by decide) (by decide))).trans (Fr.sub f21 (by decide) (by decide) (by decide))))⟩, fun z => absurd rfl z⟩, fun z => absurd rfl z⟩)
    · refine tm_aload_n dX12_read_44 rfl 0 rfl ?_
      refine tm_iconst dX12_read_45 ?_
      refine tm_callV (M := m_X12_read) (pc := 46) (ix := 388) (M' := m_X12_goOver) (As := [.int (iI 2)]) (rest := []) dX12_read_46 ok_X12_goOver im_X12_goOver se_X12_goOver ml12_388 np_X12_goOver rfl rfl (Nat.le_of_ble_eq_true rfl) (Nat.le_of_ble_eq_true rfl) rfl (c_X12_goOver (d) (σ := σ18) (w := 2) R2_ (by decide) (by rw [e212]; omega) gb3.2.2.1 gb3.2.2.2.2 (fun q => absurd q (by decide))) (fun r38 σ39 hp => ?_)
      obtain ⟨v40, rfl, f41, f42, f43, f44, f45, f46⟩ := hp
      show Tm _ _ 49 b σ39 [(0, .ref b)] [.int (iI v40)] _
      have gc0 := f41
      have gc1 := f42
      have gc2 := f43
      have gc3 := f44
      have gc4 := f45
      have gc5 := f46
      have k3 : KPR σ σ39 := k2.trans (gc3.kpr (by decide))
      have R3_ := f43
      have e213 : σ39.1 21 = σ.1 2 := (gc1.1 21 (by decide)).trans e212
      have g263 := RG.s R3_ 26
      refine tm_if_eq (tgt := 56) dX12_read_49 (by decide) ⟨by omega, by omega⟩ (fun h47 => ?_) (fun h47 => ?_)
      · refine tm_iconst dX12_read_56 ?_
        refine tm_istore_n (L' := [(1, .int (iI 0)), (0, .ref b)]) dX12_read_57 rfl (by decide) rfl ?_
        refine tm_aload_n dX12_read_58 rfl 1 rfl ?_
        refine tm_getS (k := 26) (t := σ39.1 26) dX12_read_59 (by decide) fl12_252 rfl (rfl) ?_
        have g48 := RG.s f43 26
        refine tm_if_gt (tgt := 69) dX12_read_62 (by decide) ⟨by omega, by omega⟩ (fun h49 => ?_) (fun h49 => ?_)
        · refine tm_iconst dX12_read_69 ?_
          have rq50s : sv (sS 27 (-1) (sS 26 0 (sS 2 0 (sS 21 (σ.1 2) (sS 0 0 σ))))) = sv (sS 21 (σ.1 2) σ) := rfl
          have rq50 : RQ9 (sv (sS 27 (-1) (sS 26 0 (sS 2 0 (sS 21 (σ.1 2) (sS 0 0 σ)))))) (-1) (σ39.1 26) (σ39.1 27) (σ.1 10) (σ.1 10) := by
            rcases gc0 with z9 | z9
            · exact (GQ1.nofl (ga4 (by omega)) ((sv_fr gb1 (by decide) (by decide)).trans (sv_fr ga1 (by decide) (by decide))) (gc5 z9)).elim
            · exact RM9.bad (by show σ.1 2 ≤ 1200; omega) rfl rfl (sv_fr ga1 (by decide) (by decide)) ((sv_fr gb1 (by decide) (by decide)).trans (sv_fr ga1 (by decide) (by decide))) (ga4 (by omega)) (gb4 (by omega)) (gc4 z9) (by omega)
          exact tm_iret rfl dX12_read_70 (⟨_, rfl, ((((((((Fr.rfl.S (by decide)).S (by decide)).S (by decide)).S (by decide)).S (by decide)).trans (Fr.sub f6 (by decide) (by decide) (by decide))).trans (Fr.sub f21 (by decide) (by decide) (by decide))).trans (Fr.sub f42 (by decide) (by decide) (by decide))), f43, rs_F f42 (by decide) (rs_F f21 (by decide) (rs_F f6 (by decide) (rs_o (by decide) (rs_o (by decide) (rs_eq))))), gc3.2.2.1, gc3.2.2.2.2, RDQ.keep hrh k3 (show Fr [0, 2, 19, 20, 21, 22, 23, 25, 26, 27, 28, 29, 30, 31, 32, 33, 34, 39, 40, 43] [3, 4, 5, 6, 7, 8, 9, 35, 36, 37, 41, 42, 45] [24, 38, 44] σ σ39 from ((((((((Fr.rfl.S (by decide)).S (by decide)).S (by decide)).S (by decide)).S (by decide)).trans (Fr.sub f6 (by decide) (by decide) (by decide))).trans (Fr.sub f21 (by decide) (by decide) (by decide))).trans (Fr.sub f42 (by decide) (by decide) (by decide)))), by rw [(show σ39.1 10 = σ.1 10 from rs_F f42 (by decide) (rs_F f21 (by decide) (rs_F f6 (by decide) (rs_o (by decide) (rs_o (by decide) (rs_o (by decide) (rs_o (by decide) (rs_o (by decide) (rfl))))))))), ← rq50s]; exact rq50, ⟨fun _ => ⟨k3, (show Fr [0, 2, 19, 20, 21, 22, 23, 25, 26, 27, 28, 29, 30, 31, 32, 33, 34, 39, 40, 43] [3, 4, 5, 6, 7, 8, 9, 35, 36, 37, 41, 42, 45] [24, 38, 44] σ σ39 from ((((((((Fr.rfl.S (by decide)).S (by decide)).S (by decide)).S (by decide)).S (by decide)).trans (Fr.sub f6 (by decide) (by decide) (by decide))).trans (Fr.sub f21 (by decide) (by decide) (by decide))).trans (Fr.sub f42 (by decide) (by decide) (by decide))))⟩, fun z => absurd rfl z⟩, fun z => absurd rfl z⟩)
        · refine tm_iload_n dX12_read_65 rfl 0 rfl ?_
          refine tm_if_ne (tgt := 71) dX12_read_66 (by decide) ⟨by decide, by decide⟩ (fun h => absurd h (by decide)) (fun _ => ?_)
          refine tm_iconst dX12_read_69 ?_
          have rq52s : sv (sS 27 (-1) (sS 26 0 (sS 2 0 (sS 21 (σ.1 2) (sS 0 0 σ))))) = sv (sS 21 (σ.1 2) σ) := rfl
          have rq52 : RQ9 (sv (sS 27 (-1) (sS 26 0 (sS 2 0 (sS 21 (σ.1 2) (sS 0 0 σ)))))) (-1) (σ39.1 26) (σ39.1 27) (σ.1 10) (σ.1 10) := by
            rcases gc0 with z9 | z9
            · exact (GQ1.nofl (ga4 (by omega)) ((sv_fr gb1 (by decide) (by decide)).trans (sv_fr ga1 (by decide) (by decide))) (gc5 z9)).elim
            · exact RM9.bad (by show σ.1 2 ≤ 1200; omega) rfl rfl (sv_fr ga1 (by decide) (by decide)) ((sv_fr gb1 (by decide) (by decide)).trans (sv_fr ga1 (by decide) (by decide))) (ga4 (by omega)) (gb4 (by omega)) (gc4 z9) (by omega)
          exact tm_iret rfl dX12_read_70 (⟨_, rfl, ((((((((Fr.rfl.S (by decide)).S (by decide)).S (by decide)).S (by decide)).S (by decide)).trans (Fr.sub f6 (by decide) (by decide) (by decide))).trans (Fr.sub f21 (by decide) (by decide) (by decide))).trans (Fr.sub f42 (by decide) (by decide) (by decide))), f43, rs_F f42 (by decide) (rs_F f21 (by decide) (rs_F f6 (by decide) (rs_o (by decide) (rs_o (by decide) (rs_eq))))), gc3.2.2.1, gc3.2.2.2.2, RDQ.keep hrh k3 (show Fr [0, 2, 19, 20, 21, 22, 23, 25, 26, 27, 28, 29, 30, 31, 32, 33, 34, 39, 40, 43] [3, 4, 5, 6, 7, 8, 9, 35, 36, 37, 41, 42, 45] [24, 38, 44] σ σ39 from ((((((((Fr.rfl.S (by decide)).S (by decide)).S (by decide)).S (by decide)).S (by decide)).trans (Fr.sub f6 (by decide) (by decide) (by decide))).trans (Fr.sub f21 (by decide) (by decide) (by decide))).trans (Fr.sub f42 (by decide) (by decide) (by decide)))), by rw [(show σ39.1 10 = σ.1 10 from rs_F f42 (by decide) (rs_F f21 (by decide) (rs_F f6 (by decide) (rs_o (by decide) (rs_o (by decide) (rs_o (by decide) (rs_o (by decide) (rs_o (by decide) (rfl))))))))), ← rq52s]; exact rq52, ⟨fun _ => ⟨k3, (show Fr [0, 2, 19, 20, 21, 22, 23, 25, 26, 27, 28, 29, 30, 31, 32, 33, 34, 39, 40, 43] [3, 4, 5, 6, 7, 8, 9, 35, 36, 37, 41, 42, 45] [24, 38, 44] σ σ39 from ((((((((Fr.rfl.S (by decide)).S (by decide)).S (by decide)).S (by decide)).S (by decide)).trans (Fr.sub f6 (by decide) (by decide) (by decide))).trans (Fr.sub f21 (by decide) (by decide) (by decide))).trans (Fr.sub f42 (by decide) (by decide) (by decide))))⟩, fun z => absurd rfl z⟩, fun z => absurd rfl z⟩)
      · refine tm_iconst dX12_read_52 ?_
        refine tm_goto (tgt := 57) dX12_read_53 (by decide) ?_
        refine tm_istore_n (L' := [(1, .int (iI 1)), (0, .ref b)]) dX12_read_57 rfl (by decide) rfl ?_
        refine tm_aload_n dX12_read_58 rfl 1 rfl ?_
        refine tm_getS (k := 26) (t := σ39.1 26) dX12_read_59 (by decide) fl12_252 rfl (rfl) ?_
        have g53 := RG.s f43 26
        refine tm_if_gt (tgt := 69) dX12_read_62 (by decide) ⟨by omega, by omega⟩ (fun h54 => ?_) (fun h54 => ?_)
        · refine tm_iconst dX12_read_69 ?_
          have rq55s : sv (sS 27 (-1) (sS 26 0 (sS 2 0 (sS 21 (σ.1 2) (sS 0 0 σ))))) = sv (sS 21 (σ.1 2) σ) := rfl
          have rq55 : RQ9 (sv (sS 27 (-1) (sS 26 0 (sS 2 0 (sS 21 (σ.1 2) (sS 0 0 σ)))))) (-1) (σ39.1 26) (σ39.1 27) (σ.1 10) (σ.1 10) := by
            rcases gc0 with z9 | z9
            · exact (GQ1.nofl (ga4 (by omega)) ((sv_fr gb1 (by decide) (by decide)).trans (sv_fr ga1 (by decide) (by decide))) (gc5 z9)).elim
            · exact RM9.bad (by show σ.1 2 ≤ 1200; omega) rfl rfl (sv_fr ga1 (by decide) (by decide)) ((sv_fr gb1 (by decide) (by decide)).trans (sv_fr ga1 (by decide) (by decide))) (ga4 (by omega)) (gb4 (by omega)) (gc4 z9) (by omega)
          exact tm_iret rfl dX12_read_70 (⟨_, rfl, ((((((((Fr.rfl.S (by decide)).S (by decide)).S (by decide)).S (by decide)).S (by decide)).trans (Fr.sub f6 (by decide) (by decide) (by decide))).trans (Fr.sub f21 (by decide) (by decide) (by decide))).trans (Fr.sub f42 (by decide) (by decide) (by decide))), f43, rs_F f42 (by decide) (rs_F f21 (by decide) (rs_F f6 (by decide) (rs_o (by decide) (rs_o (by decide) (rs_eq))))), gc3.2.2.1, gc3.2.2.2.2, RDQ.keep hrh k3 (show Fr [0, 2, 19, 20, 21, 22, 23, 25, 26, 27, 28, 29, 30, 31, 32, 33, 34, 39, 40, 43] [3, 4, 5, 6, 7, 8, 9, 35, 36, 37, 41, 42, 45] [24, 38, 44] σ σ39 from ((((((((Fr.rfl.S (by decide)).S (by decide)).S (by decide)).S (by decide)).S (by decide)).trans (Fr.sub f6 (by decide) (by decide) (by decide))).trans (Fr.sub f21 (by decide) (by decide) (by decide))).trans (Fr.sub f42 (by decide) (by decide) (by decide)))), by rw [(show σ39.1 10 = σ.1 10 from rs_F f42 (by decide) (rs_F f21 (by decide) (rs_F f6 (by decide) (rs_o (by decide) (rs_o (by decide) (rs_o (by decide) (rs_o (by decide) (rs_o (by decide) (rfl))))))))), ← rq55s]; exact rq55, ⟨fun _ => ⟨k3, (show Fr [0, 2, 19, 20, 21, 22, 23, 25, 26, 27, 28, 29, 30, 31, 32, 33, 34, 39, 40, 43] [3, 4, 5, 6, 7, 8, 9, 35, 36, 37, 41, 42, 45] [24, 38, 44] σ σ39 from ((((((((Fr.rfl.S (by decide)).S (by decide)).S (by decide)).S (by decide)).S (by decide)).trans (Fr.sub f6 (by decide) (by decide) (by decide))).trans (Fr.sub f21 (by decide) (by decide) (by decide))).trans (Fr.sub f42 (by decide) (by decide) (by decide))))⟩, fun z => absurd rfl z⟩, fun z => absurd rfl z⟩)
        · refine tm_iload_n dX12_read_65 rfl 0 rfl ?_
          refine tm_if_ne (tgt := 71) dX12_read_66 (by decide) ⟨by decide, by decide⟩ (fun _ => ?_) (fun h => absurd h (by decide))
          have f26 : σ39.1 26 = 0 := by have z := ((ga3.2.2.2.1.trans gb3.2.2.2.1).trans gc3.2.2.2.1).2 (show (0 : Int) ≤ 0 by decide); omega
          have f26b : σ18.1 26 = 0 := Classical.byContradiction (fun y => gc3.2.2.2.1.1 y f26)
          have svb : sv σ18 = sv σ3 := sv_fr gb1 (by decide) (by decide)
          have svc : sv σ39 = sv σ18 := sv_fr gc1 (by decide) (by decide)
          have n30 : σ39.1 30 = σ18.1 30 := GQ1.det (gb4 (by omega)) (gc4 (by omega)) svb
          obtain ⟨t1, x1, l1, es1, ⟨ra, -⟩, na, -, ea, -⟩ := gb4 (by omega)
          obtain ⟨t2, x2, l2, es2, ⟨rb, -⟩, nb, eb, -, -⟩ := gc4 (by omega)
          have ea1 := (ea rfl).1
          have ea2 := (ea rfl).2 f26b
          have n0_ := nR_0 l2
          have gk := gc3.2.1 (by decide)
          have gq2 := gc4 (by omega)
          refine tm_aload_n dX12_read_71 rfl 1 rfl ?_
          refine tm_aload_n dX12_read_72 rfl 1 rfl ?_
          refine tm_getS (k := 30) (t := σ39.1 30) dX12_read_73 (by decide) fl12_268 rfl (rfl) ?_
          have g57 := RG.s f43 30
          refine tm_putS (k := 10) (v := σ39.1 30) lay_12 dX12_read_76 (by decide) fl12_391 rfl (tyX12_ok 10 (by decide)) rfl rfl rfl ?_
          refine tm_iconst dX12_read_79 ?_
          refine tm_istore_n (L' := [(2, .int (iI 0)), (1, .int (iI 1)), (0, .ref b)]) dX12_read_80 rfl (by decide) rfl ?_
          refine tm_sub [0, 1, 2] rfl (l_rd81 (d + 64) (σ0 := (sS 10 (σ39.1 30) σ39)) (c1 := 1) (f43.S (by omega)) (show 0 ≤ σ39.1 30 ∧ σ39.1 30 ≤ 6 by have z := ea2.1; omega) (fun i64 σ65 F60 R61 f62 f63 => ?_) _ (0) (sS 10 (σ39.1 30) σ39) Fr.rfl (f43.S (by omega)) (show (0 : Int) ≤ 0 ∧ (0 : Int) ≤ σ39.1 30 by omega) (fun r a c => absurd c (by omega)) (fun r a => ⟨rfl, rfl⟩) rfl)
          show Tm _ _ 119 b σ65 [(2, .int (iI i64)), (1, .int (iI 1)), (0, .ref b)] [] _
          have la := f62
          have lb := f63
          have R119 := R61
          have fd := (show Fr [10] [11, 12] [] σ39 σ65 from ((Fr.rfl.S (by decide)).trans (Fr.sub F60 (by decide) (by decide) (by decide))))
          have d10 : σ65.1 10 = σ39.1 30 := rs_F F60 (by decide) (rs_eq)
          have svd : sv σ65 = sv σ18 := (sv_fr fd (by decide) (by decide)).trans svc
          have gen : GEN (sv σ65) σ65 := ⟨t2, x2, l2, by rw [svd]; exact rb.rc, by rw [nb, n30]; exact ea2.1, fun e he => (eb rfl f26 e he).e3 ((fd.1 43 (by decide)).trans gk.2.2.2.1) ((fd.2.2 44 (by decide)).trans gk.2.2.2.2.2.2) (by rw [ea1]; exact ea2.1) (fun v y1 y2 => by rw [(la v y1 (by show v < σ39.1 30; omega)).2]; show σ39.2.1 36 v = _; rw [gk.2.2.1]; exact (ea2.2 v y1 (by omega)).1.symm)⟩
          have nnd : NN σ65 := gc3.2.2.1.fr fd (by decide)
          have h43d : 0 ≤ σ65.1 43 ∧ σ65.1 43 ≤ 260 := by rw [fd.1 43 (by decide)]; exact gc3.2.2.2.2
          have e21d : σ65.1 21 = σ.1 2 := (fd.1 21 (by decide)).trans e213
          refine tm_aload_n dX12_read_119 rfl 2 rfl ?_
          refine tm_iconst dX12_read_120 ?_
          refine tm_callV (M := m_X12_read) (pc := 121) (ix := 388) (M' := m_X12_goOver) (As := [.int (iI 3)]) (rest := []) dX12_read_121 ok_X12_goOver im_X12_goOver se_X12_goOver ml12_388 np_X12_goOver rfl rfl (Nat.le_of_ble_eq_true rfl) (Nat.le_of_ble_eq_true rfl) rfl (c_X12_goOver (d) (σ := σ65) (w := 3) R119 (by decide) (by rw [e21d]; omega) nnd h43d (fun _ => gen)) (fun r66 σ67 hp => ?_)
          obtain ⟨v68, rfl, f69, f70, f71, f72, f73, f74⟩ := hp
          show Tm _ _ 124 b σ67 [(2, .int (iI i64)), (1, .int (iI 1)), (0, .ref b)] [.int (iI v68)] _
          have gd0 := f69
          have gd1 := f70
          have gd2 := f71
          have gd3 := f72
          have gd4 := f73
          have gd5 := f74
          have vd : v68 = 1 := by
            rcases gd0 with z | z
            · obtain ⟨t, x, l, r1, r2, r3⟩ := gen
              exact absurd (show ([999] : List Nat) = [] from congrArg Prod.fst (RCm.det (gd5 z).rc r1 (stp_pF _) rfl)) (by decide)
            · exact z
          have gq4 := gd4 vd
          have gq4c := gd4 vd
          have n304 : σ67.1 30 = σ39.1 30 := GQ1.det gq2 gq4 svd
          obtain ⟨t4, x4, l4, es4, ⟨rd_, -⟩, nd, -, -, ed, gm3⟩ := gq4
          have ed1 := (ed rfl).1
          have ed2 := (ed rfl).2
          have e104 : σ67.1 10 = σ67.1 30 := by rw [gd1.1 10 (by decide), d10, n304]
          have gk4 := gd3.2.1 (by decide)
          have R125 := f71
          refine tm_istore_n (L' := [(1, .int (iI v68)), (2, .int (iI i64)), (0, .ref b)]) dX12_read_124 rfl (by decide) rfl ?_
          refine tm_iconst dX12_read_125 ?_
          refine tm_istore_n (L' := [(2, .int (iI 0)), (1, .int (iI v68)), (0, .ref b)]) dX12_read_126 rfl (by decide) rfl ?_
          refine tm_sub [0, 1, 2] rfl (l_rd127 (d + 62) (σ0 := σ67) (c1 := v68) f71 (by have z := ea2.1; omega) (fun r a c => ed1 r a (by omega)) (fun r84 σ85 F77 R78 f79 f80 f81 f82 f83 => ?_) _ (0) σ67 Fr.rfl f71 (by have z := ea2.1; omega) (fun j a c => absurd c (by omega)) (fun x a => ⟨rfl, rfl, rfl, rfl, fun _ _ _ => ⟨rfl, rfl⟩⟩) (fun j a => rfl) (fun j a e => by by_cases z : j < σ67.1 30; have q := (ed1 j a z).1; omega; rw [ed2 j (by omega), show σ65.2.1 9 = _ from (fd.2.1 9 (by decide)).trans k3.2]; exact hrh.2.2.1 j a e) (fun j a c => absurd c (by omega)) rfl)
          show Tm _ _ 269 b σ85 [(2, .int (iI r84)), (1, .int (iI v68)), (0, .ref b)] [] _
          have lr4 := f83
          have lr0 := f79
          have lr1 := f80
          have lr2 := f81
          have lr3 := f82
          have R269 := R78
          have e43f : σ85.1 43 = σ85.1 10 := by rw [F77.1 43 (by decide), F77.1 10 (by decide), gk4.2.2.2.1, fd.1 43 (by decide), gk.2.2.2.1, e104, n304, n30]; exact ea1
          have e10f : σ85.1 10 = σ67.1 30 := by rw [F77.1 10 (by decide)]; exact e104
          have e11f : σ85.2.1 11 = σ65.2.1 11 := (F77.2.1 11 (by decide)).trans (gd1.2.1 11 (by decide))
          have e12f : σ85.2.1 12 = σ65.2.1 12 := (F77.2.1 12 (by decide)).trans (gd1.2.1 12 (by decide))
          have tab : ∀ r, 0 ≤ r → r < σ85.1 10 → σ85.2.1 12 r = σ18.2.1 35 r ∧ σ85.2.1 11 r = σ18.2.1 36 r := fun r a b => by rw [e11f, e12f, (la r a (by show r < σ39.1 30; omega)).1, (la r a (by show r < σ39.1 30; omega)).2]; exact ⟨congrFun gk.1 r, congrFun gk.2.2.1 r⟩
          have hN : 0 ≤ σ85.1 10 ∧ σ85.1 10 ≤ 6 := by have z := ea2.1; omega
          have nnb := gb3.2.2.1
          have plr : ∀ r, 0 ≤ r → r < σ85.1 10 → PLI σ85 r := fun r a b => (ed1 r a (by omega)).mv (fun k y1 y2 => lr1 _ (by omega)) (lr2 r (by omega)) (F77.1 43 (by decide)) (F77.2.1 11 (by decide))
          have dnr : ∀ r, 0 ≤ r → r < σ85.1 10 → DNR σ85 r := fun r a b => lr0 r a (by rw [← F77.1 10 (by decide)]; exact b)
          have gdf : GDA σ85 := ⟨hN, fun r a b => GDR.plain (plr r a b) (dnr r a b) ⟨a, by omega⟩ e43f (by rw [(tab r a b).1]; exact nnb r a (by omega)) (by rw [(tab r a b).1, (tab r a b).2]; exact (ea2.2 r a (by omega)).2.2)⟩
          have plf : PLA σ85 := ⟨⟨hN, fun r a b => (BKG.plain (plr r a b) (dnr r a b) ⟨a, by omega⟩ e43f).1⟩, fun r a b => (BKG.plain (plr r a b) (dnr r a b) ⟨a, by omega⟩ e43f).2⟩
          have nnf : NN σ85 := gd3.2.2.1.fr F77 (by decide)
          have h43f : 0 ≤ σ85.1 43 ∧ σ85.1 43 ≤ 260 := by rw [F77.1 43 (by decide)]; exact gd3.2.2.2.2
          have f0d : ∀ r, σ65.2.1 10 r = σ65.2.1 10 r := fun _ => rfl
          have o11 : ∀ r, σ85.1 10 ≤ r → σ85.2.1 11 r = σ.2.1 11 r ∧ σ85.2.1 12 r = σ.2.1 12 r := fun r a => by rw [e11f, e12f, (lb r (by show σ39.1 30 ≤ r; omega)).1, (lb r (by show σ39.1 30 ≤ r; omega)).2]; exact ⟨congrFun ((gc1.2.1 11 (by decide)).trans ((gb1.2.1 11 (by decide)).trans (ga1.2.1 11 (by decide)))) r, congrFun ((gc1.2.1 12 (by decide)).trans ((gb1.2.1 12 (by decide)).trans (ga1.2.1 12 (by decide)))) r⟩
          have parf : PAR σ85 := fun r a b => by by_cases z : r < σ85.1 10; rw [(tab r a z).2]; exact (ea2.2 r a (by omega)).2.1; rw [(o11 r (by omega)).1]; exact hrh.2.2.2.1 r a b
          have namf : NAM σ85 := fun r a b => by by_cases z : r < σ85.1 10; rw [(tab r a z).1]; exact nnb r a b; rw [(o11 r (by omega)).2]; exact hrh.2.2.2.2.1 r a b
          have bof : BO 48 σ85 := hrh.2.2.2.2.2.fr (show Fr [0, 2, 10, 19, 20, 21, 22, 23, 25, 26, 27, 28, 29, 30, 31, 32, 33, 34, 39, 40, 43, 67] [3, 4, 5, 6, 7, 8, 9, 11, 12, 13, 14, 15, 16, 17, 18, 35, 36, 37, 41, 42, 45] [24, 38, 44] σ σ85 from ((((((((((((Fr.rfl.S (by decide)).S (by decide)).S (by decide)).S (by decide)).S (by decide)).trans (Fr.sub f6 (by decide) (by decide) (by decide))).trans (Fr.sub f21 (by decide) (by decide) (by decide))).trans (Fr.sub f42 (by decide) (by decide) (by decide))).S (by decide)).trans (Fr.sub F60 (by decide) (by decide) (by decide))).trans (Fr.sub f70 (by decide) (by decide) (by decide))).trans (Fr.sub F77 (by decide) (by decide) (by decide)))) (by decide)
          refine tm_iconst dX12_read_269 ?_
          refine tm_istore_n (L' := [(2, .int (iI 0)), (1, .int (iI v68)), (0, .ref b)]) dX12_read_270 rfl (by decide) rfl ?_
          refine tm_sub [0, 1, 2] rfl (l_rd271 (d + 64) (σ0 := σ85) (c1 := v68) R78 (fun i92 σ93 F88 R89 f90 f91 => ?_) _ (0) σ85 Fr.rfl R78 (by omega) bof (fun j a b => absurd b (by omega)) rfl)
          show Tm _ _ 290 b σ93 [(2, .int (iI i92)), (1, .int (iI v68)), (0, .ref b)] [] _
          have hbz := f90
          have hzz := f91
          refine tm_aload_n dX12_read_290 rfl 2 rfl ?_
          refine tm_iconst dX12_read_291 ?_
          refine tm_putS (k := 67) (v := 0) lay_12 dX12_read_292 (by decide) fl12_397 rfl (tyX12_ok 67 (by decide)) rfl rfl rfl ?_
          refine tm_aload_n dX12_read_295 rfl 2 rfl ?_
          refine tm_getS (k := 10) (t := σ39.1 30) dX12_read_296 (by decide) fl12_391 rfl (rs_o (by decide) (rs_F F88 (by decide) (rs_F F77 (by decide) (rs_F f70 (by decide) (rs_F F60 (by decide) (rs_eq)))))) ?_
          have fz := (show Fr [67] [48] [] σ85 (sS 67 0 σ93) from ((Fr.rfl.trans (Fr.sub F88 (by decide) (by decide) (by decide))).S (by decide)))
          have nnz : NN (sS 67 0 σ93) := nnf.fr fz (by decide)
          have gdz : GDA (sS 67 0 σ93) := gdf.fr fz (by decide) (by decide)
          have plz : PLA (sS 67 0 σ93) := plf.fr fz (by decide) (by decide)
          have boz : BO 48 (sS 67 0 σ93) := hbz
          have rq94 : RQ9 (sv (sS 27 (-1) (sS 26 0 (sS 2 0 (sS 21 (σ.1 2) (sS 0 0 σ)))))) (σ39.1 30) (σ39.1 26) (σ39.1 27) (σ.1 10) (σ39.1 30) := RM9.good (by show σ.1 2 ≤ 1200; omega) rfl rfl (sv_fr ga1 (by decide) (by decide)) ((sv_fr gb1 (by decide) (by decide)).trans (sv_fr ga1 (by decide) (by decide))) (ga4 (by omega)) (gb4 (by omega)) gq2 f26 rfl (by have z := ea2.1; omega) rfl
          have rq94s : sv (sS 27 (-1) (sS 26 0 (sS 2 0 (sS 21 (σ.1 2) (sS 0 0 σ))))) = sv (sS 21 (σ.1 2) σ) := rfl
          have rq940 : (sS 67 0 σ93).1 10 = σ39.1 30 := rs_o (by decide) (rs_F F88 (by decide) (rs_F F77 (by decide) (rs_F f70 (by decide) (rs_F F60 (by decide) (rs_eq)))))
          have rq94t : σ67.1 26 = σ65.1 26 ∧ σ67.1 27 = σ65.1 27 := RM9.three gq2 gq4c svd f26 ((fd.2.1 35 (by decide)).trans gk.1) ((fd.2.2 38 (by decide)).trans gk.2.1)
          have rq946 : (sS 67 0 σ93).1 26 = σ39.1 26 := (show (sS 67 0 σ93).1 26 = σ67.1 26 from rs_o (by decide) (rs_F F88 (by decide) (rs_F F77 (by decide) (rfl)))).trans (rq94t.1.trans (fd.1 26 (by decide)))
          have rq947 : (sS 67 0 σ93).1 27 = σ39.1 27 := (show (sS 67 0 σ93).1 27 = σ67.1 27 from rs_o (by decide) (rs_F F88 (by decide) (rs_F F77 (by decide) (rfl)))).trans (rq94t.2.trans (fd.1 27 (by decide)))
          exact tm_iret rfl dX12_read_299 (⟨_, rfl, ((((((((((((((Fr.rfl.S (by decide)).S (by decide)).S (by decide)).S (by decide)).S (by decide)).trans (Fr.sub f6 (by decide) (by decide) (by decide))).trans (Fr.sub f21 (by decide) (by decide) (by decide))).trans (Fr.sub f42 (by decide) (by decide) (by decide))).S (by decide)).trans (Fr.sub F60 (by decide) (by decide) (by decide))).trans (Fr.sub f70 (by decide) (by decide) (by decide))).trans (Fr.sub F77 (by decide) (by decide) (by decide))).trans (Fr.sub F88 (by decide) (by decide) (by decide))).S (by decide)), (R89.S (by omega)), rs_o (by decide) (rs_F F88 (by decide) (rs_F F77 (by decide) (rs_F f70 (by decide) (rs_F F60 (by decide) (rs_o (by decide) (rs_F f42 (by decide) (rs_F f21 (by decide) (rs_F f6 (by decide) (rs_o (by decide) (rs_o (by decide) (rs_eq))))))))))), nnz, by rw [fz.1 43 (by decide)]; exact h43f, ⟨gdz, plz, fun r a c => by rw [fz.2.1 9 (by decide)]; exact lr3 r a c, fun r a c => by rw [fz.2.1 11 (by decide)]; exact parf r a c, fun r a c => by rw [fz.2.1 12 (by decide)]; exact namf r a c, boz, Or.inl rs_eq⟩, (by rw [rq940, rq946, rq947, ← rq94s]; exact rq94), ⟨fun z => absurd z (by omega), fun _ => ⟨MDE.mk (d := σ65) (e := σ67) (τ := (sS 67 0 σ93)) (gm3 rfl) ((svd.trans ((sv_fr gb1 (by decide) (by decide)).trans (sv_fr ga1 (by decide) (by decide)))).trans rfl) ((fz.1 10 (by decide)).trans e10f) (by omega) (fun j y => (congrFun (fz.2.1 9 (by decide)) j).trans (lr2 j y)) (fun r y1 y2 => by have z := (ed1 r y1 y2).1; omega) (fun x y => (lr1 x y).trans (IEQ.of fz (by decide))) ((fz.2.1 35 (by decide)).trans ((F77.2.1 35 (by decide)).trans gk4.1)) ((fz.2.2 38 (by decide)).trans ((F77.2.2 38 (by decide)).trans gk4.2.1)) ((fz.1 43 (by decide)).trans ((F77.1 43 (by decide)).trans gk4.2.2.2.1)) ((fz.2.2 44 (by decide)).trans ((F77.2.2 44 (by decide)).trans gk4.2.2.2.2.2.2)) (fun r y1 y2 => by have z := lr4 r y1 (by have z7 := fz.1 10 (by decide); have z6 := F77.1 10 (by decide); omega); unfold DN2 at *; rw [fz.2.1 13 (by decide), fz.2.1 17 (by decide)]; exact z) (fun r y1 y2 => (dnr r y1 (by have z7 := fz.1 10 (by decide); omega)).fr9 fz (by decide)) (fun r y1 y2 => by rw [fz.2.1 12 (by decide), fz.2.1 11 (by decide), fz.2.1 35 (by decide), fz.2.1 36 (by decide), F77.2.1 35 (by decide), F77.2.1 36 (by decide), gk4.1, gk4.2.2.1, fd.2.1 35 (by decide), fd.2.1 36 (by decide), e11f, e12f]; exact la r y1 (by show r < σ39.1 30; have z8 : (sS 67 0 σ93).1 10 = _ := (fz.1 10 (by decide)).trans e10f; omega)) (TBQ.mk (gb4 (by omega)) ((sv_fr ga1 (by decide) (by decide)).trans rfl) (((fz.2.1 35 (by decide)).trans ((F77.2.1 35 (by decide)).trans gk4.1)).trans ((fd.2.1 35 (by decide)).trans gk.1)) (((fz.2.2 38 (by decide)).trans ((F77.2.2 38 (by decide)).trans gk4.2.1)).trans ((fd.2.2 38 (by decide)).trans gk.2.1)) (((fz.1 43 (by decide)).trans ((F77.1 43 (by decide)).trans gk4.2.2.2.1)).trans ((fd.1 43 (by decide)).trans gk.2.2.2.1)) (((fz.2.2 44 (by decide)).trans ((F77.2.2 44 (by decide)).trans gk4.2.2.2.2.2.2)).trans ((fd.2.2 44 (by decide)).trans gk.2.2.2.2.2.2)) (fun r y1 y2 => by have z8 : (sS 67 0 σ93).1 10 = _ := (fz.1 10 (by decide)).trans e10f; rw [fz.2.1 11 (by decide), (tab r y1 (by have z7 := fz.1 10 (by decide); omega)).2]; exact (ea2.2 r y1 (by omega)).1.symm)), rs_eq⟩⟩, fun _ j y1 y2 => hzz j y1 y2⟩)
end
