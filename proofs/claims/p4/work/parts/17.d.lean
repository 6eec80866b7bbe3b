theorem ml12_320 : Cond.methodLink RX12 320 yX12_isName ∈ pWW := pw8 (List.mem_of_getElem? (i := 152) rfl) rfl
theorem ml12_327 : Cond.methodLink RX12 327 yX12_expression ∈ pWW := pw8 (List.mem_of_getElem? (i := 217) rfl) rfl
theorem ml12_330 : Cond.methodLink RX12 330 yX12_need ∈ pWW := pw8 (List.mem_of_getElem? (i := 173) rfl) rfl
theorem ml12_323 : Cond.methodLink RX12 323 yX12_nameOf ∈ pWW := pw8 (List.mem_of_getElem? (i := 185) rfl) rfl
theorem ml12_310 : Cond.methodLink RX12 310 yX12_joins ∈ pWW := pw8 (List.mem_of_getElem? (i := 237) rfl) rfl
theorem dX12_signed_0 : decode cX12_signed 0 = .ok (.aload_n 0, 1) := by decide +kernel
theorem dX12_signed_1 : decode cX12_signed 1 = .ok (.bipush 45, 2) := by decide +kernel
theorem dX12_signed_3 : decode cX12_signed 3 = .ok (.invokevirtual 258, 3) := by decide +kernel
theorem dX12_signed_6 : decode cX12_signed 6 = .ok (.istore_n 1, 1) := by decide +kernel
theorem dX12_signed_7 : decode cX12_signed 7 = .ok (.iload_n 1, 1) := by decide +kernel
theorem dX12_signed_8 : decode cX12_signed 8 = .ok (.ifCond .eq 7, 3) := by decide +kernel
theorem dX12_signed_15 : decode cX12_signed 15 = .ok (.aload_n 0, 1) := by decide +kernel
theorem dX12_signed_16 : decode cX12_signed 16 = .ok (.getfield 226, 3) := by decide +kernel
theorem dX12_signed_19 : decode cX12_signed 19 = .ok (.iconst 3, 1) := by decide +kernel
theorem dX12_signed_20 : decode cX12_signed 20 = .ok (.if_icmp .ne 19, 3) := by decide +kernel
theorem dX12_signed_39 : decode cX12_signed 39 = .ok (.aload_n 0, 1) := by decide +kernel
theorem dX12_signed_40 : decode cX12_signed 40 = .ok (.invokevirtual 320, 3) := by decide +kernel
theorem dX12_signed_43 : decode cX12_signed 43 = .ok (.ifCond .eq 27, 3) := by decide +kernel
theorem dX12_signed_70 : decode cX12_signed 70 = .ok (.aload_n 0, 1) := by decide +kernel
theorem dX12_signed_71 : decode cX12_signed 71 = .ok (.bipush 40, 2) := by decide +kernel
theorem dX12_signed_73 : decode cX12_signed 73 = .ok (.invokevirtual 258, 3) := by decide +kernel
theorem dX12_signed_76 : decode cX12_signed 76 = .ok (.ifCond .eq 25, 3) := by decide +kernel
theorem dX12_signed_101 : decode cX12_signed 101 = .ok (.aload_n 0, 1) := by decide +kernel
theorem dX12_signed_102 : decode cX12_signed 102 = .ok (.invokevirtual 261, 3) := by decide +kernel
theorem dX12_signed_105 : decode cX12_signed 105 = .ok (.ireturn, 1) := by decide +kernel
theorem dX12_signed_79 : decode cX12_signed 79 = .ok (.aload_n 0, 1) := by decide +kernel
theorem dX12_signed_80 : decode cX12_signed 80 = .ok (.invokevirtual 265, 3) := by decide +kernel
theorem dX12_signed_83 : decode cX12_signed 83 = .ok (.aload_n 0, 1) := by decide +kernel
theorem dX12_signed_84 : decode cX12_signed 84 = .ok (.invokevirtual 327, 3) := by decide +kernel
theorem dX12_signed_87 : decode cX12_signed 87 = .ok (.ifCond .eq 12, 3) := by decide +kernel
theorem dX12_signed_99 : decode cX12_signed 99 = .ok (.iconst 0, 1) := by decide +kernel
theorem dX12_signed_100 : decode cX12_signed 100 = .ok (.ireturn, 1) := by decide +kernel
theorem dX12_signed_90 : decode cX12_signed 90 = .ok (.aload_n 0, 1) := by decide +kernel
theorem dX12_signed_91 : decode cX12_signed 91 = .ok (.bipush 41, 2) := by decide +kernel
theorem dX12_signed_93 : decode cX12_signed 93 = .ok (.invokevirtual 330, 3) := by decide +kernel
theorem dX12_signed_96 : decode cX12_signed 96 = .ok (.ifCond .ne 10, 3) := by decide +kernel
theorem dX12_signed_106 : decode cX12_signed 106 = .ok (.iload_n 1, 1) := by decide +kernel
theorem dX12_signed_107 : decode cX12_signed 107 = .ok (.ifCond .eq 18, 3) := by decide +kernel
theorem dX12_signed_125 : decode cX12_signed 125 = .ok (.iconst 1, 1) := by decide +kernel
theorem dX12_signed_126 : decode cX12_signed 126 = .ok (.ireturn, 1) := by decide +kernel
theorem dX12_signed_46 : decode cX12_signed 46 = .ok (.aload_n 0, 1) := by decide +kernel
theorem dX12_signed_47 : decode cX12_signed 47 = .ok (.iconst 2, 1) := by decide +kernel
theorem dX12_signed_48 : decode cX12_signed 48 = .ok (.aload_n 0, 1) := by decide +kernel
theorem dX12_signed_49 : decode cX12_signed 49 = .ok (.aload_n 0, 1) := by decide +kernel
theorem dX12_signed_50 : decode cX12_signed 50 = .ok (.getfield 219, 3) := by decide +kernel
theorem dX12_signed_53 : decode cX12_signed 53 = .ok (.aload_n 0, 1) := by decide +kernel
theorem dX12_signed_54 : decode cX12_signed 54 = .ok (.getfield 216, 3) := by decide +kernel
theorem dX12_signed_57 : decode cX12_signed 57 = .ok (.invokevirtual 323, 3) := by decide +kernel
theorem dX12_signed_60 : decode cX12_signed 60 = .ok (.invokevirtual 301, 3) := by decide +kernel
theorem dX12_signed_63 : decode cX12_signed 63 = .ok (.aload_n 0, 1) := by decide +kernel
theorem dX12_signed_64 : decode cX12_signed 64 = .ok (.invokevirtual 265, 3) := by decide +kernel
theorem dX12_signed_67 : decode cX12_signed 67 = .ok (.goto 39, 3) := by decide +kernel
theorem dX12_signed_23 : decode cX12_signed 23 = .ok (.aload_n 0, 1) := by decide +kernel
theorem dX12_signed_24 : decode cX12_signed 24 = .ok (.iconst 1, 1) := by decide +kernel
theorem dX12_signed_25 : decode cX12_signed 25 = .ok (.aload_n 0, 1) := by decide +kernel
theorem dX12_signed_26 : decode cX12_signed 26 = .ok (.getfield 223, 3) := by decide +kernel
theorem dX12_signed_29 : decode cX12_signed 29 = .ok (.invokevirtual 301, 3) := by decide +kernel
theorem dX12_signed_32 : decode cX12_signed 32 = .ok (.aload_n 0, 1) := by decide +kernel
theorem dX12_signed_33 : decode cX12_signed 33 = .ok (.invokevirtual 265, 3) := by decide +kernel
theorem dX12_signed_36 : decode cX12_signed 36 = .ok (.goto 70, 3) := by decide +kernel
theorem dX12_signed_11 : decode cX12_signed 11 = .ok (.aload_n 0, 1) := by decide +kernel
theorem dX12_signed_12 : decode cX12_signed 12 = .ok (.invokevirtual 265, 3) := by decide +kernel
theorem dX12_signed_110 : decode cX12_signed 110 = .ok (.aload_n 0, 1) := by decide +kernel
theorem dX12_signed_111 : decode cX12_signed 111 = .ok (.iconst 2, 1) := by decide +kernel
theorem dX12_signed_112 : decode cX12_signed 112 = .ok (.iconst 1, 1) := by decide +kernel
theorem dX12_signed_113 : decode cX12_signed 113 = .ok (.iconst 0, 1) := by decide +kernel
theorem dX12_signed_114 : decode cX12_signed 114 = .ok (.aload_n 0, 1) := by decide +kernel
theorem dX12_signed_115 : decode cX12_signed 115 = .ok (.getfield 285, 3) := by decide +kernel
theorem dX12_signed_118 : decode cX12_signed 118 = .ok (.aload_n 0, 1) := by decide +kernel
theorem dX12_signed_119 : decode cX12_signed 119 = .ok (.getfield 288, 3) := by decide +kernel
theorem dX12_signed_122 : decode cX12_signed 122 = .ok (.invokevirtual 310, 3) := by decide +kernel
set_option maxHeartbeats 4000000 in
set_option maxRecDepth 20000 in
theorem c_X12_signed (d : Nat) {b : Nat} {σ : MS} {lv : Nat} (hce : ∀ (d : Nat) {b : Nat} {σ : MS} (hR : RG σ) (hrd : RDY σ) (hnn : NN σ) (h28 : σ.1 28 = 8 - (lv : Int)), Tm (d + 4 * lv + 8) m_X12_expression 0 b σ [(0, .ref b)] [] (fun ro σ2 => ∃ v : Int, ro = some (.int (iI v)) ∧ ((v = 0 ∨ v = 1)) ∧ (Fr [19, 20, 22, 23, 26, 27, 28, 32, 34, 39, 40] [3, 4, 5, 6, 7, 8, 35] [24, 38] σ σ2) ∧ (RG σ2) ∧ (PBF σ σ2) ∧ (Im v 1 (EXS σ σ2)) ∧ (PRS 2 v σ σ2) ∧ (σ2.1 28 = σ.1 28))) (hR : RG σ) (hrd : RDY σ) (hnn : NN σ) (h28 : σ.1 28 = 8 - (lv : Int)) : Tm (d + 4 * lv + 9) m_X12_signed 0 b σ [(0, .ref b)] [] (fun ro σ2 => ∃ v : Int, ro = some (.int (iI v)) ∧ ((v = 0 ∨ v = 1)) ∧ (Fr [19, 20, 22, 23, 26, 27, 28, 32, 34, 39, 40] [3, 4, 5, 6, 7, 8, 35] [24, 38] σ σ2) ∧ (RG σ2) ∧ (PBF σ σ2) ∧ (Im v 1 (EXS σ σ2)) ∧ (PRS 0 v σ σ2) ∧ (σ2.1 28 = σ.1 28)) := by
  have tr0 : TRm 0 0 σ [0] σ := TRm.start hrd hnn
  refine tm_aload_n dX12_signed_0 rfl 0 rfl ?_
  refine tm_bipush dX12_signed_1 (by decide) ?_
  refine tm_callV (M := m_X12_signed) (pc := 3) (ix := 258) (M' := m_X12_isSign) (As := [.int (iI 45)]) (rest := []) dX12_signed_3 ok_X12_isSign im_X12_isSign se_X12_isSign ml12_258 np_X12_isSign rfl rfl (Nat.le_of_ble_eq_true rfl) (Nat.le_of_ble_eq_true rfl) rfl (c2_X12_isSign (d + 4 * lv + 7) (σ := σ) (c := 45) hR (by omega)) (fun r1 σ2 hp => ?_)
  obtain ⟨v3, rfl, rfl, f4, f5, f6⟩ := hp
  show Tm _ _ 6 b σ [(0, .ref b)] [.int (iI v3)] _
  have i45 := f5
  have n45_ := f6
  refine tm_istore_n (L' := [(1, .int (iI v3)), (0, .ref b)]) dX12_signed_6 rfl (by decide) rfl ?_
  refine tm_iload_n dX12_signed_7 rfl 0 rfl ?_
  refine tm_if_eq (tgt := 15) dX12_signed_8 (by decide) ⟨by omega, by omega⟩ (fun h7 => ?_) (fun h7 => ?_)
  · have tr1 := tr0.nxt (fun q => g0n (n45_ (by omega)))
    refine tm_aload_n dX12_signed_15 rfl 1 rfl ?_
    refine tm_getS (k := 22) (t := σ.1 22) dX12_signed_16 (by decide) fl12_226 rfl (rfl) ?_
    have g8 := RG.s hR 22
    refine tm_iconst dX12_signed_19 ?_
    refine tm_icmp_ne (tgt := 39) dX12_signed_20 (by decide) ⟨by omega, by omega⟩ ⟨by decide, by decide⟩ (fun h9 => ?_) (fun h9 => ?_)
    · refine tm_aload_n dX12_signed_39 rfl 1 rfl ?_
      refine tm_callV (M := m_X12_signed) (pc := 40) (ix := 320) (M' := m_X12_isName) (As := []) (rest := []) dX12_signed_40 ok_X12_isName im_X12_isName se_X12_isName ml12_320 np_X12_isName rfl rfl (Nat.le_of_ble_eq_true rfl) (Nat.le_of_ble_eq_true rfl) rfl (c2_X12_isName (d + 4 * lv + 7) (σ := σ)  hR) (fun r10 σ11 hp => ?_)
      obtain ⟨v12, rfl, rfl, f13, f14, f15⟩ := hp
      show Tm _ _ 43 b σ [(1, .int (iI v3)), (0, .ref b)] [.int (iI v12)] _
      have inm := f14
      have nnm_ := f15
      refine tm_if_eq (tgt := 70) dX12_signed_43 (by decide) ⟨by omega, by omega⟩ (fun h16 => ?_) (fun h16 => ?_)
      · refine tm_aload_n dX12_signed_70 rfl 1 rfl ?_
        refine tm_bipush dX12_signed_71 (by decide) ?_
        refine tm_callV (M := m_X12_signed) (pc := 73) (ix := 258) (M' := m_X12_isSign) (As := [.int (iI 40)]) (rest := []) dX12_signed_73 ok_X12_isSign im_X12_isSign se_X12_isSign ml12_258 np_X12_isSign rfl rfl (Nat.le_of_ble_eq_true rfl) (Nat.le_of_ble_eq_true rfl) rfl (c2_X12_isSign (d + 4 * lv + 7) (σ := σ) (c := 40) hR (by omega)) (fun r17 σ18 hp => ?_)
        obtain ⟨v19, rfl, rfl, f20, f21, f22⟩ := hp
        show Tm _ _ 76 b σ [(1, .int (iI v3)), (0, .ref b)] [.int (iI v19)] _
        have i40 := f21
        have n40_ := f22
        refine tm_if_eq (tgt := 101) dX12_signed_76 (by decide) ⟨by omega, by omega⟩ (fun h23 => ?_) (fun h23 => ?_)
        · refine tm_aload_n dX12_signed_101 rfl 1 rfl ?_
          refine tm_callV (M := m_X12_signed) (pc := 102) (ix := 261) (M' := m_X12_wrong) (As := []) (rest := []) dX12_signed_102 ok_X12_wrong im_X12_wrong se_X12_wrong ml12_261 np_X12_wrong rfl rfl (Nat.le_of_ble_eq_true rfl) (Nat.le_of_ble_eq_true rfl) rfl (c_X12_wrong (d + 4 * lv + 7) (σ := σ)  hR) (fun r24 σ25 hp => ?_)
          obtain ⟨v26, rfl, f27, f28, f29, f30, f31, f32⟩ := hp
          show Tm _ _ 105 b σ25 [(1, .int (iI v3)), (0, .ref b)] [.int (iI v26)] _
          exact tm_zret (v := v26) rfl (by omega) dX12_signed_105 (⟨_, rfl, by omega, (Fr.rfl.trans (Fr.sub f28 (by decide) (by decide) (by decide))), f29, (tr1.fail (PBF.of tr1.nn f28 (by decide) (by decide) (by decide) (FLT.wr f31 f32)) (fun q => g1f (by omega) (nnm_ (by omega)) (n40_ (by omega)) (WRG.of f32))).1, fun q => absurd q (by omega), by rw [show v26 = 0 from f27]; exact PRS.no (tr1.fail (PBF.of tr1.nn f28 (by decide) (by decide) (by decide) (FLT.wr f31 f32)) (fun q => g1f (by omega) (nnm_ (by omega)) (n40_ (by omega)) (WRG.of f32))).2, rs_F f28 (by decide) (rfl)⟩)
        · refine tm_aload_n dX12_signed_79 rfl 1 rfl ?_
          refine tm_callV (M := m_X12_signed) (pc := 80) (ix := 265) (M' := m_X12_advance) (As := []) (rest := []) dX12_signed_80 ok_X12_advance im_X12_advance se_X12_advance ml12_265 np_X12_advance rfl rfl (Nat.le_of_ble_eq_true rfl) (Nat.le_of_ble_eq_true rfl) rfl (c_X12_advance (d + 4 * lv + 3) (σ := σ)  hR (by have z := tr1.2.2.1.1.1; omega)) (fun r33 σ34 hp => ?_)
          obtain ⟨rfl, f36, f37, f38, f39, f40⟩ := hp
          show Tm _ _ 83 b σ34 [(1, .int (iI v3)), (0, .ref b)] [] _
          have tr2 := tr1.adv f37 f39 f40 (by have z := (i40 (by omega)).1; omega) (fun q => g1p (by omega) (nnm_ (by omega)) (i40 (by omega)) f36)
          refine tm_aload_n dX12_signed_83 rfl 1 rfl ?_
          refine tm_callV (M := m_X12_signed) (pc := 84) (ix := 327) (M' := m_X12_expression) (As := []) (rest := []) dX12_signed_84 ok_X12_expression im_X12_expression se_X12_expression ml12_327 np_X12_expression rfl rfl (Nat.le_of_ble_eq_true rfl) (Nat.le_of_ble_eq_true rfl) rfl (hce (d) (σ := σ34)  f38 tr2.2.2.1 tr2.nn (by rw [show σ34.1 28 = σ.1 28 from rs_F f37 (by decide) (rfl)]; exact h28)) (fun r41 σ42 hp => ?_)
          obtain ⟨v43, rfl, f44, f45, f46, f47, f48, f49, f50⟩ := hp
          show Tm _ _ 87 b σ42 [(1, .int (iI v3)), (0, .ref b)] [.int (iI v43)] _
          have xp0 := f44
          have xp1 := f45
          have xp2 := f46
          have xp3 := f47
          have xp4 := f48
          have xp5 := f49
          have xp6 := f50
          have e28x : σ42.1 28 = σ.1 28 := xp6.trans (rs_F f37 (by decide) (rfl) : σ34.1 28 = σ.1 28)
          refine tm_if_eq (tgt := 99) dX12_signed_87 (by decide) ⟨by omega, by omega⟩ (fun h51 => ?_) (fun h51 => ?_)
          · refine tm_iconst dX12_signed_99 ?_
            exact tm_zret (v := 0) rfl (by decide) dX12_signed_100 (⟨_, rfl, by omega, ((Fr.rfl.trans (Fr.sub f37 (by decide) (by decide) (by decide))).trans (Fr.sub f45 (by decide) (by decide) (by decide))), f46, (tr2.fail xp3 (xp5.2 (by omega))).1, fun q => absurd q (by decide), PRS.no (tr2.fail xp3 (xp5.2 (by omega))).2, e28x⟩)
          · have tr3 := tr2.sub xp3 (xp4 (by omega)) (xp5.1 (by omega))
            refine tm_aload_n dX12_signed_90 rfl 1 rfl ?_
            refine tm_bipush dX12_signed_91 (by decide) ?_
            refine tm_callV (M := m_X12_signed) (pc := 93) (ix := 330) (M' := m_X12_need) (As := [.int (iI 41)]) (rest := []) dX12_signed_93 ok_X12_need im_X12_need se_X12_need ml12_330 np_X12_need rfl rfl (Nat.le_of_ble_eq_true rfl) (Nat.le_of_ble_eq_true rfl) rfl (c_X12_need (d + 4 * lv + 2) (σ := σ42) (c := 41) f46 (by have z := tr3.2.2.1.1.1; omega) (by omega)) (fun r52 σ53 hp => ?_)
            obtain ⟨v54, rfl, f55, f56, f57, f58, f59, f60, f61⟩ := hp
            show Tm _ _ 96 b σ53 [(1, .int (iI v3)), (0, .ref b)] [.int (iI v54)] _
            have yn0 := f55
            have yn1 := f56
            have yn2 := f57
            have yn3 := f58
            have yn4 := f59
            have yn5 := f60
            have yn6 := f61
            refine tm_if_ne (tgt := 106) dX12_signed_96 (by decide) ⟨by omega, by omega⟩ (fun h62 => ?_) (fun h62 => ?_)
            · have ynq := yn3 (by omega)
              have tr4 := tr3.needy f56 ynq.2.2.1 ynq.2.2.2.1 ynq.2.2.2.2 (by have := ynq.1.1; omega) (fun q => gn_41 ynq.1 ynq.2.1)
              have gt : GTm σ53 := (xp4 (by omega)).2.2.1.fr f56 (by decide)
              have gtr := (xp4 (by omega)).2.2.1
              unfold GTm at gtr
              have k34 := f56.1 34 (by decide)
              have e28 : σ53.1 28 = σ.1 28 := by rw [f56.1 28 (by decide)]; exact e28x
              have rdj := tr4.2.2.1.2
              have tkj := tr4.2.2.1.1.1
              refine tm_iload_n dX12_signed_106 rfl 0 rfl ?_
              refine tm_if_eq (tgt := 125) dX12_signed_107 (by decide) ⟨by omega, by omega⟩ (fun h63 => ?_) (fun h63 => ?_)
              · refine tm_iconst dX12_signed_125 ?_
                exact tm_zret (v := 1) rfl (by decide) dX12_signed_126 (⟨_, rfl, by omega, (((Fr.rfl.trans (Fr.sub f37 (by decide) (by decide) (by decide))).trans (Fr.sub f45 (by decide) (by decide) (by decide))).trans (Fr.sub f56 (by decide) (by decide) (by decide))), f57, tr4.1, fun _ => tr4.exs (by decide) gt (e28), tr4.prs, e28⟩)
              · exact absurd h63 (by omega)
            · refine tm_iconst dX12_signed_99 ?_
              exact tm_zret (v := 0) rfl (by decide) dX12_signed_100 (⟨_, rfl, by omega, (((Fr.rfl.trans (Fr.sub f37 (by decide) (by decide) (by decide))).trans (Fr.sub f45 (by decide) (by decide) (by decide))).trans (Fr.sub f56 (by decide) (by decide) (by decide))), f57, (tr3.fail (PBF.of tr3.nn f56 (by decide) (by decide) (by decide) yn5) (fun q => gf_41 (yn4 (by omega)) (yn6 (by omega)))).1, fun q => absurd q (by decide), PRS.no (tr3.fail (PBF.of tr3.nn f56 (by decide) (by decide) (by decide) yn5) (fun q => gf_41 (yn4 (by omega)) (yn6 (by omega)))).2, by rw [f56.1 28 (by decide)]; exact e28x⟩)
      · refine tm_aload_n dX12_signed_46 rfl 1 rfl ?_
        refine tm_iconst dX12_signed_47 ?_
        refine tm_aload_n dX12_signed_48 rfl 1 rfl ?_
        refine tm_aload_n dX12_signed_49 rfl 1 rfl ?_
        refine tm_getW (t := σ.2.2 24 0) dX12_signed_50 fl12_219 (rfl) ?_
        refine tm_aload_n dX12_signed_53 rfl 1 rfl ?_
        refine tm_getS (k := 19) (t := σ.1 19) dX12_signed_54 (by decide) fl12_216 rfl (rfl) ?_
        have g64 := RG.s hR 19
        refine tm_callV (M := m_X12_signed) (pc := 57) (ix := 323) (M' := m_X12_nameOf) (As := [.long (σ.2.2 24 0), .int (iI (σ.1 19))]) (rest := [.int (iI 2), .ref b]) dX12_signed_57 ok_X12_nameOf im_X12_nameOf se_X12_nameOf ml12_323 np_X12_nameOf rfl rfl (Nat.le_of_ble_eq_true rfl) (Nat.le_of_ble_eq_true rfl) rfl (c_X12_nameOf (d + 4 * lv + 6) (σ := σ) (w := σ.2.2 24 0) (p := σ.1 19) hR tr1.nn (by have z := tr1.2.2.1.2.2.1; omega) (by omega)) (fun r65 σ66 hp => ?_)
        obtain ⟨v67, rfl, f68, f69, f70, f71, f72⟩ := hp
        show Tm _ _ 60 b σ66 [(1, .int (iI v3)), (0, .ref b)] [.int (iI v67), .int (iI 2), .ref b] _
        have nv := f71
        have n20 : σ66.1 20 = _ := f68.1 20 (by decide)
        have n21 : σ66.1 21 = _ := f68.1 21 (by decide)
        refine tm_callV (M := m_X12_signed) (pc := 60) (ix := 301) (M' := m_X12_give) (As := [.int (iI 2), .int (iI v67)]) (rest := []) dX12_signed_60 ok_X12_give im_X12_give se_X12_give ml12_301 np_X12_give rfl rfl (Nat.le_of_ble_eq_true rfl) (Nat.le_of_ble_eq_true rfl) rfl (c2_X12_give (d + 4 * lv + 7) (σ := σ66) (k := 2) (w := v67) f69 (by omega) (by omega)) (fun r73 σ74 hp => ?_)
        obtain ⟨rfl, f76, f77, f78⟩ := hp
        show Tm _ _ 63 b σ74 [(1, .int (iI v3)), (0, .ref b)] [] _
        have gv := f78
        have n20b : σ74.1 20 = _ := f76.1 20 (by decide)
        have n21b : σ74.1 21 = _ := f76.1 21 (by decide)
        have tk9 := tr1.2.2.1.1.1
        refine tm_aload_n dX12_signed_63 rfl 1 rfl ?_
        refine tm_callV (M := m_X12_signed) (pc := 64) (ix := 265) (M' := m_X12_advance) (As := []) (rest := []) dX12_signed_64 ok_X12_advance im_X12_advance se_X12_advance ml12_265 np_X12_advance rfl rfl (Nat.le_of_ble_eq_true rfl) (Nat.le_of_ble_eq_true rfl) rfl (c_X12_advance (d + 4 * lv + 3) (σ := σ74)  f77 (by omega)) (fun r79 σ80 hp => ?_)
        obtain ⟨rfl, f82, f83, f84, f85, f86⟩ := hp
        show Tm _ _ 67 b σ80 [(1, .int (iI v3)), (0, .ref b)] [] _
        have tr5 := tr1.nameadv (inm (by omega)) f70 f68 f72 f76 f82 f83 f85 f86
        have rdg := tr5.2.2.1
        unfold RDY at rdg
        have gt : GTm σ80 := by unfold GTm; rw [f83.1 39 (by decide), f83.1 40 (by decide), gv.1, gv.2]; exact ⟨Or.inr rfl, fun _ => by omega⟩
        have e28 : σ80.1 28 = σ.1 28 := rs_F f83 (by decide) (rs_F f76 (by decide) (rs_F f68 (by decide) (rfl)))
        refine tm_goto (tgt := 106) dX12_signed_67 (by decide) ?_
        have rdj := tr5.2.2.1.2
        have tkj := tr5.2.2.1.1.1
        refine tm_iload_n dX12_signed_106 rfl 0 rfl ?_
        refine tm_if_eq (tgt := 125) dX12_signed_107 (by decide) ⟨by omega, by omega⟩ (fun h87 => ?_) (fun h87 => ?_)
        · refine tm_iconst dX12_signed_125 ?_
          exact tm_zret (v := 1) rfl (by decide) dX12_signed_126 (⟨_, rfl, by omega, (((Fr.rfl.trans (Fr.sub f68 (by decide) (by decide) (by decide))).trans (Fr.sub f76 (by decide) (by decide) (by decide))).trans (Fr.sub f83 (by decide) (by decide) (by decide))), f84, tr5.1, fun _ => tr5.exs (by decide) gt (e28), tr5.prs, e28⟩)
        · exact absurd h87 (by omega)
    · refine tm_aload_n dX12_signed_23 rfl 1 rfl ?_
      refine tm_iconst dX12_signed_24 ?_
      refine tm_aload_n dX12_signed_25 rfl 1 rfl ?_
      refine tm_getS (k := 23) (t := σ.1 23) dX12_signed_26 (by decide) fl12_223 rfl (rfl) ?_
      have g88 := RG.s hR 23
      refine tm_callV (M := m_X12_signed) (pc := 29) (ix := 301) (M' := m_X12_give) (As := [.int (iI 1), .int (iI (σ.1 23))]) (rest := []) dX12_signed_29 ok_X12_give im_X12_give se_X12_give ml12_301 np_X12_give rfl rfl (Nat.le_of_ble_eq_true rfl) (Nat.le_of_ble_eq_true rfl) rfl (c2_X12_give (d + 4 * lv + 7) (σ := σ) (k := 1) (w := σ.1 23) hR (by omega) (by omega)) (fun r89 σ90 hp => ?_)
      obtain ⟨rfl, f92, f93, f94⟩ := hp
      show Tm _ _ 32 b σ90 [(1, .int (iI v3)), (0, .ref b)] [] _
      have tr6 := tr1.nop f92 (by decide) (by decide) (by decide) (by decide)
      have gv := f94
      have so3 : σ90.1 22 = 3 := by rw [f92.1 22 (by decide)]; omega
      refine tm_aload_n dX12_signed_32 rfl 1 rfl ?_
      refine tm_callV (M := m_X12_signed) (pc := 33) (ix := 265) (M' := m_X12_advance) (As := []) (rest := []) dX12_signed_33 ok_X12_advance im_X12_advance se_X12_advance ml12_265 np_X12_advance rfl rfl (Nat.le_of_ble_eq_true rfl) (Nat.le_of_ble_eq_true rfl) rfl (c_X12_advance (d + 4 * lv + 3) (σ := σ90)  f93 (by have z := tr6.2.2.1.1.1; omega)) (fun r95 σ96 hp => ?_)
      obtain ⟨rfl, f98, f99, f100, f101, f102⟩ := hp
      show Tm _ _ 36 b σ96 [(1, .int (iI v3)), (0, .ref b)] [] _
      have tr7 := tr6.adv f99 f101 f102 (by omega) (fun q => g1d so3 f98)
      have gt : GTm σ96 := by unfold GTm; rw [f99.1 39 (by decide), f99.1 40 (by decide), gv.1]; exact ⟨Or.inl rfl, fun q => absurd q (by decide)⟩
      have e28 : σ96.1 28 = σ.1 28 := rs_F f99 (by decide) (rs_F f92 (by decide) (rfl))
      refine tm_goto (tgt := 106) dX12_signed_36 (by decide) ?_
      have rdj := tr7.2.2.1.2
      have tkj := tr7.2.2.1.1.1
      refine tm_iload_n dX12_signed_106 rfl 0 rfl ?_
      refine tm_if_eq (tgt := 125) dX12_signed_107 (by decide) ⟨by omega, by omega⟩ (fun h103 => ?_) (fun h103 => ?_)
      · refine tm_iconst dX12_signed_125 ?_
        exact tm_zret (v := 1) rfl (by decide) dX12_signed_126 (⟨_, rfl, by omega, ((Fr.rfl.trans (Fr.sub f92 (by decide) (by decide) (by decide))).trans (Fr.sub f99 (by decide) (by decide) (by decide))), f100, tr7.1, fun _ => tr7.exs (by decide) gt (e28), tr7.prs, e28⟩)
      · exact absurd h103 (by omega)
  · refine tm_aload_n dX12_signed_11 rfl 1 rfl ?_
    refine tm_callV (M := m_X12_signed) (pc := 12) (ix := 265) (M' := m_X12_advance) (As := []) (rest := []) dX12_signed_12 ok_X12_advance im_X12_advance se_X12_advance ml12_265 np_X12_advance rfl rfl (Nat.le_of_ble_eq_true rfl) (Nat.le_of_ble_eq_true rfl) rfl (c_X12_advance (d + 4 * lv + 3) (σ := σ)  hR (by have z := tr0.2.2.1.1.1; omega)) (fun r104 σ105 hp => ?_)
    obtain ⟨rfl, f107, f108, f109, f110, f111⟩ := hp
    show Tm _ _ 15 b σ105 [(1, .int (iI v3)), (0, .ref b)] [] _
    have tr8 := tr0.adv f108 f110 f111 (by have z := (i45 (by omega)).1; omega) (fun q => g0m (i45 (by omega)) f107)
    refine tm_aload_n dX12_signed_15 rfl 1 rfl ?_
    refine tm_getS (k := 22) (t := σ105.1 22) dX12_signed_16 (by decide) fl12_226 rfl (rfl) ?_
    have g112 := RG.s f109 22
    refine tm_iconst dX12_signed_19 ?_
    refine tm_icmp_ne (tgt := 39) dX12_signed_20 (by decide) ⟨by omega, by omega⟩ ⟨by decide, by decide⟩ (fun h113 => ?_) (fun h113 => ?_)
    · refine tm_aload_n dX12_signed_39 rfl 1 rfl ?_
      refine tm_callV (M := m_X12_signed) (pc := 40) (ix := 320) (M' := m_X12_isName) (As := []) (rest := []) dX12_signed_40 ok_X12_isName im_X12_isName se_X12_isName ml12_320 np_X12_isName rfl rfl (Nat.le_of_ble_eq_true rfl) (Nat.le_of_ble_eq_true rfl) rfl (c2_X12_isName (d + 4 * lv + 7) (σ := σ105)  f109) (fun r114 σ115 hp => ?_)
      obtain ⟨v116, rfl, rfl, f117, f118, f119⟩ := hp
      show Tm _ _ 43 b σ105 [(1, .int (iI v3)), (0, .ref b)] [.int (iI v116)] _
      have inm := f118
      have nnm_ := f119
      refine tm_if_eq (tgt := 70) dX12_signed_43 (by decide) ⟨by omega, by omega⟩ (fun h120 => ?_) (fun h120 => ?_)
      · refine tm_aload_n dX12_signed_70 rfl 1 rfl ?_
        refine tm_bipush dX12_signed_71 (by decide) ?_
        refine tm_callV (M := m_X12_signed) (pc := 73) (ix := 258) (M' := m_X12_isSign) (As := [.int (iI 40)]) (rest := []) dX12_signed_73 ok_X12_isSign im_X12_isSign se_X12_isSign ml12_258 np_X12_isSign rfl rfl (Nat.le_of_ble_eq_true rfl) (Nat.le_of_ble_eq_true rfl) rfl (c2_X12_isSign (d + 4 * lv + 7) (σ := σ105) (c := 40) f109 (by omega)) (fun r121 σ122 hp => ?_)
        obtain ⟨v123, rfl, rfl, f124, f125, f126⟩ := hp
        show Tm _ _ 76 b σ105 [(1, .int (iI v3)), (0, .ref b)] [.int (iI v123)] _
        have i40 := f125
        have n40_ := f126
        refine tm_if_eq (tgt := 101) dX12_signed_76 (by decide) ⟨by omega, by omega⟩ (fun h127 => ?_) (fun h127 => ?_)
        · refine tm_aload_n dX12_signed_101 rfl 1 rfl ?_
          refine tm_callV (M := m_X12_signed) (pc := 102) (ix := 261) (M' := m_X12_wrong) (As := []) (rest := []) dX12_signed_102 ok_X12_wrong im_X12_wrong se_X12_wrong ml12_261 np_X12_wrong rfl rfl (Nat.le_of_ble_eq_true rfl) (Nat.le_of_ble_eq_true rfl) rfl (c_X12_wrong (d + 4 * lv + 7) (σ := σ105)  f109) (fun r128 σ129 hp => ?_)
          obtain ⟨v130, rfl, f131, f132, f133, f134, f135, f136⟩ := hp
          show Tm _ _ 105 b σ129 [(1, .int (iI v3)), (0, .ref b)] [.int (iI v130)] _
          exact tm_zret (v := v130) rfl (by omega) dX12_signed_105 (⟨_, rfl, by omega, ((Fr.rfl.trans (Fr.sub f108 (by decide) (by decide) (by decide))).trans (Fr.sub f132 (by decide) (by decide) (by decide))), f133, (tr8.fail (PBF.of tr8.nn f132 (by decide) (by decide) (by decide) (FLT.wr f135 f136)) (fun q => g1f (by omega) (nnm_ (by omega)) (n40_ (by omega)) (WRG.of f136))).1, fun q => absurd q (by omega), by rw [show v130 = 0 from f131]; exact PRS.no (tr8.fail (PBF.of tr8.nn f132 (by decide) (by decide) (by decide) (FLT.wr f135 f136)) (fun q => g1f (by omega) (nnm_ (by omega)) (n40_ (by omega)) (WRG.of f136))).2, rs_F f132 (by decide) (rs_F f108 (by decide) (rfl))⟩)
        · refine tm_aload_n dX12_signed_79 rfl 1 rfl ?_
          refine tm_callV (M := m_X12_signed) (pc := 80) (ix := 265) (M' := m_X12_advance) (As := []) (rest := []) dX12_signed_80 ok_X12_advance im_X12_advance se_X12_advance ml12_265 np_X12_advance rfl rfl (Nat.le_of_ble_eq_true rfl) (Nat.le_of_ble_eq_true rfl) rfl (c_X12_advance (d + 4 * lv + 3) (σ := σ105)  f109 (by have z := tr8.2.2.1.1.1; omega)) (fun r137 σ138 hp => ?_)
          obtain ⟨rfl, f140, f141, f142, f143, f144⟩ := hp
          show Tm _ _ 83 b σ138 [(1, .int (iI v3)), (0, .ref b)] [] _
          have tr9 := tr8.adv f141 f143 f144 (by have z := (i40 (by omega)).1; omega) (fun q => g1p (by omega) (nnm_ (by omega)) (i40 (by omega)) f140)
          refine tm_aload_n dX12_signed_83 rfl 1 rfl ?_
          refine tm_callV (M := m_X12_signed) (pc := 84) (ix := 327) (M' := m_X12_expression) (As := []) (rest := []) dX12_signed_84 ok_X12_expression im_X12_expression se_X12_expression ml12_327 np_X12_expression rfl rfl (Nat.le_of_ble_eq_true rfl) (Nat.le_of_ble_eq_true rfl) rfl (hce (d) (σ := σ138)  f142 tr9.2.2.1 tr9.nn (by rw [show σ138.1 28 = σ.1 28 from rs_F f141 (by decide) (rs_F f108 (by decide) (rfl))]; exact h28)) (fun r145 σ146 hp => ?_)
          obtain ⟨v147, rfl, f148, f149, f150, f151, f152, f153, f154⟩ := hp
          show Tm _ _ 87 b σ146 [(1, .int (iI v3)), (0, .ref b)] [.int (iI v147)] _
          have xp0 := f148
          have xp1 := f149
          have xp2 := f150
          have xp3 := f151
          have xp4 := f152
          have xp5 := f153
          have xp6 := f154
          have e28x : σ146.1 28 = σ.1 28 := xp6.trans (rs_F f141 (by decide) (rs_F f108 (by decide) (rfl)) : σ138.1 28 = σ.1 28)
          refine tm_if_eq (tgt := 99) dX12_signed_87 (by decide) ⟨by omega, by omega⟩ (fun h155 => ?_) (fun h155 => ?_)
          · refine tm_iconst dX12_signed_99 ?_
            exact tm_zret (v := 0) rfl (by decide) dX12_signed_100 (⟨_, rfl, by omega, (((Fr.rfl.trans (Fr.sub f108 (by decide) (by decide) (by decide))).trans (Fr.sub f141 (by decide) (by decide) (by decide))).trans (Fr.sub f149 (by decide) (by decide) (by decide))), f150, (tr9.fail xp3 (xp5.2 (by omega))).1, fun q => absurd q (by decide), PRS.no (tr9.fail xp3 (xp5.2 (by omega))).2, e28x⟩)
          · have tr10 := tr9.sub xp3 (xp4 (by omega)) (xp5.1 (by omega))
            refine tm_aload_n dX12_signed_90 rfl 1 rfl ?_
            refine tm_bipush dX12_signed_91 (by decide) ?_
            refine tm_callV (M := m_X12_signed) (pc := 93) (ix := 330) (M' := m_X12_need) (As := [.int (iI 41)]) (rest := []) dX12_signed_93 ok_X12_need im_X12_need se_X12_need ml12_330 np_X12_need rfl rfl (Nat.le_of_ble_eq_true rfl) (Nat.le_of_ble_eq_true rfl) rfl (c_X12_need (d + 4 * lv + 2) (σ := σ146) (c := 41) f150 (by have z := tr10.2.2.1.1.1; omega) (by omega)) (fun r156 σ157 hp => ?_)
            obtain ⟨v158, rfl, f159, f160, f161, f162, f163, f164, f165⟩ := hp
            show Tm _ _ 96 b σ157 [(1, .int (iI v3)), (0, .ref b)] [.int (iI v158)] _
            have yn0 := f159
            have yn1 := f160
            have yn2 := f161
            have yn3 := f162
            have yn4 := f163
            have yn5 := f164
            have yn6 := f165
            refine tm_if_ne (tgt := 106) dX12_signed_96 (by decide) ⟨by omega, by omega⟩ (fun h166 => ?_) (fun h166 => ?_)
            · have ynq := yn3 (by omega)
              have tr11 := tr10.needy f160 ynq.2.2.1 ynq.2.2.2.1 ynq.2.2.2.2 (by have := ynq.1.1; omega) (fun q => gn_41 ynq.1 ynq.2.1)
              have gt : GTm σ157 := (xp4 (by omega)).2.2.1.fr f160 (by decide)
              have gtr := (xp4 (by omega)).2.2.1
              unfold GTm at gtr
              have k34 := f160.1 34 (by decide)
              have e28 : σ157.1 28 = σ.1 28 := by rw [f160.1 28 (by decide)]; exact e28x
              have rdj := tr11.2.2.1.2
              have tkj := tr11.2.2.1.1.1
              refine tm_iload_n dX12_signed_106 rfl 0 rfl ?_
              refine tm_if_eq (tgt := 125) dX12_signed_107 (by decide) ⟨by omega, by omega⟩ (fun h167 => ?_) (fun h167 => ?_)
              · exact absurd h167 (by omega)
              · refine tm_aload_n dX12_signed_110 rfl 1 rfl ?_
                refine tm_iconst dX12_signed_111 ?_
                refine tm_iconst dX12_signed_112 ?_
                refine tm_iconst dX12_signed_113 ?_
                refine tm_aload_n dX12_signed_114 rfl 1 rfl ?_
                refine tm_getS (k := 39) (t := σ146.1 39) dX12_signed_115 (by decide) fl12_285 rfl (rs_F f160 (by decide) (rfl)) ?_
                have g168 := RG.s f150 39
                refine tm_aload_n dX12_signed_118 rfl 1 rfl ?_
                refine tm_getS (k := 40) (t := σ146.1 40) dX12_signed_119 (by decide) fl12_288 rfl (rs_F f160 (by decide) (rfl)) ?_
                have g169 := RG.s f150 40
                refine tm_callV (M := m_X12_signed) (pc := 122) (ix := 310) (M' := m_X12_joins) (As := [.int (iI 2), .int (iI 1), .int (iI 0), .int (iI (σ146.1 39)), .int (iI (σ146.1 40))]) (rest := []) dX12_signed_122 ok_X12_joins im_X12_joins se_X12_joins ml12_310 np_X12_joins rfl rfl (Nat.le_of_ble_eq_true rfl) (Nat.le_of_ble_eq_true rfl) rfl (c_X12_joins (d + 4 * lv + 5) (σ := σ157) (k := 2) (ak := 1) (a := 0) (bk := σ146.1 39) (c := σ146.1 40) f161 (by omega) (by decide) (by omega) (by have z := gt; unfold GTm at z; omega) (by omega) (by omega) (by omega)) (fun r170 σ171 hp => ?_)
                obtain ⟨rfl, f173, f174, f175, f176, f177⟩ := hp
                show Tm _ _ 125 b σ171 [(1, .int (iI v3)), (0, .ref b)] [] _
                have tr12 := tr11.join f173 ⟨f175.1, f175.2.1⟩ f176 f177 (by decide) hrd
                have gtj : GTm σ171 := by unfold GTm; rw [f175.2.2.1, f175.2.2.2, f175.1]; exact ⟨Or.inr rfl, fun _ => by omega⟩
                refine tm_iconst dX12_signed_125 ?_
                exact tm_zret (v := 1) rfl (by decide) dX12_signed_126 (⟨_, rfl, by omega, (((((Fr.rfl.trans (Fr.sub f108 (by decide) (by decide) (by decide))).trans (Fr.sub f141 (by decide) (by decide) (by decide))).trans (Fr.sub f149 (by decide) (by decide) (by decide))).trans (Fr.sub f160 (by decide) (by decide) (by decide))).trans (Fr.sub f173 (by decide) (by decide) (by decide))), f174, tr12.1, fun _ => tr12.exs (by decide) gtj (by rw [f173.1 28 (by decide)]; exact e28), tr12.prs, by rw [f173.1 28 (by decide)]; exact e28⟩)
            · refine tm_iconst dX12_signed_99 ?_
              exact tm_zret (v := 0) rfl (by decide) dX12_signed_100 (⟨_, rfl, by omega, ((((Fr.rfl.trans (Fr.sub f108 (by decide) (by decide) (by decide))).trans (Fr.sub f141 (by decide) (by decide) (by decide))).trans (Fr.sub f149 (by decide) (by decide) (by decide))).trans (Fr.sub f160 (by decide) (by decide) (by decide))), f161, (tr10.fail (PBF.of tr10.nn f160 (by decide) (by decide) (by decide) yn5) (fun q => gf_41 (yn4 (by omega)) (yn6 (by omega)))).1, fun q => absurd q (by decide), PRS.no (tr10.fail (PBF.of tr10.nn f160 (by decide) (by decide) (by decide) yn5) (fun q => gf_41 (yn4 (by omega)) (yn6 (by omega)))).2, by rw [f160.1 28 (by decide)]; exact e28x⟩)
      · refine tm_aload_n dX12_signed_46 rfl 1 rfl ?_
        refine tm_iconst dX12_signed_47 ?_
        refine tm_aload_n dX12_signed_48 rfl 1 rfl ?_
        refine tm_aload_n dX12_signed_49 rfl 1 rfl ?_
        refine tm_getW (t := σ105.2.2 24 0) dX12_signed_50 fl12_219 (rfl) ?_
        refine tm_aload_n dX12_signed_53 rfl 1 rfl ?_
        refine tm_getS (k := 19) (t := σ105.1 19) dX12_signed_54 (by decide) fl12_216 rfl (rfl) ?_
        have g178 := RG.s f109 19
        refine tm_callV (M := m_X12_signed) (pc := 57) (ix := 323) (M' := m_X12_nameOf) (As := [.long (σ105.2.2 24 0), .int (iI (σ105.1 19))]) (rest := [.int (iI 2), .ref b]) dX12_signed_57 ok_X12_nameOf im_X12_nameOf se_X12_nameOf ml12_323 np_X12_nameOf rfl rfl (Nat.le_of_ble_eq_true rfl) (Nat.le_of_ble_eq_true rfl) rfl (c_X12_nameOf (d + 4 * lv + 6) (σ := σ105) (w := σ105.2.2 24 0) (p := σ105.1 19) f109 tr8.nn (by have z := tr8.2.2.1.2.2.1; omega) (by omega)) (fun r179 σ180 hp => ?_)
        obtain ⟨v181, rfl, f182, f183, f184, f185, f186⟩ := hp
        show Tm _ _ 60 b σ180 [(1, .int (iI v3)), (0, .ref b)] [.int (iI v181), .int (iI 2), .ref b] _
        have nv := f185
        have n20 : σ180.1 20 = _ := f182.1 20 (by decide)
        have n21 : σ180.1 21 = _ := f182.1 21 (by decide)
        refine tm_callV (M := m_X12_signed) (pc := 60) (ix := 301) (M' := m_X12_give) (As := [.int (iI 2), .int (iI v181)]) (rest := []) dX12_signed_60 ok_X12_give im_X12_give se_X12_give ml12_301 np_X12_give rfl rfl (Nat.le_of_ble_eq_true rfl) (Nat.le_of_ble_eq_true rfl) rfl (c2_X12_give (d + 4 * lv + 7) (σ := σ180) (k := 2) (w := v181) f183 (by omega) (by omega)) (fun r187 σ188 hp => ?_)
        obtain ⟨rfl, f190, f191, f192⟩ := hp
        show Tm _ _ 63 b σ188 [(1, .int (iI v3)), (0, .ref b)] [] _
        have gv := f192
        have n20b : σ188.1 20 = _ := f190.1 20 (by decide)
        have n21b : σ188.1 21 = _ := f190.1 21 (by decide)
        have tk9 := tr8.2.2.1.1.1
        refine tm_aload_n dX12_signed_63 rfl 1 rfl ?_
        refine tm_callV (M := m_X12_signed) (pc := 64) (ix := 265) (M' := m_X12_advance) (As := []) (rest := []) dX12_signed_64 ok_X12_advance im_X12_advance se_X12_advance ml12_265 np_X12_advance rfl rfl (Nat.le_of_ble_eq_true rfl) (Nat.le_of_ble_eq_true rfl) rfl (c_X12_advance (d + 4 * lv + 3) (σ := σ188)  f191 (by omega)) (fun r193 σ194 hp => ?_)
        obtain ⟨rfl, f196, f197, f198, f199, f200⟩ := hp
        show Tm _ _ 67 b σ194 [(1, .int (iI v3)), (0, .ref b)] [] _
        have tr13 := tr8.nameadv (inm (by omega)) f184 f182 f186 f190 f196 f197 f199 f200
        have rdg := tr13.2.2.1
        unfold RDY at rdg
        have gt : GTm σ194 := by unfold GTm; rw [f197.1 39 (by decide), f197.1 40 (by decide), gv.1, gv.2]; exact ⟨Or.inr rfl, fun _ => by omega⟩
        have e28 : σ194.1 28 = σ.1 28 := rs_F f197 (by decide) (rs_F f190 (by decide) (rs_F f182 (by decide) (rs_F f108 (by decide) (rfl))))
        refine tm_goto (tgt := 106) dX12_signed_67 (by decide) ?_
        have rdj := tr13.2.2.1.2
        have tkj := tr13.2.2.1.1.1
        refine tm_iload_n dX12_signed_106 rfl 0 rfl ?_
        refine tm_if_eq (tgt := 125) dX12_signed_107 (by decide) ⟨by omega, by omega⟩ (fun h201 => ?_) (fun h201 => ?_)
        · exact absurd h201 (by omega)
        · refine tm_aload_n dX12_signed_110 rfl 1 rfl ?_
          refine tm_iconst dX12_signed_111 ?_
          refine tm_iconst dX12_signed_112 ?_
          refine tm_iconst dX12_signed_113 ?_
          refine tm_aload_n dX12_signed_114 rfl 1 rfl ?_
          refine tm_getS (k := 39) (t := σ188.1 39) dX12_signed_115 (by decide) fl12_285 rfl (rs_F f197 (by decide) (rfl)) ?_
          have g202 := RG.s f191 39
          refine tm_aload_n dX12_signed_118 rfl 1 rfl ?_
          refine tm_getS (k := 40) (t := σ188.1 40) dX12_signed_119 (by decide) fl12_288 rfl (rs_F f197 (by decide) (rfl)) ?_
          have g203 := RG.s f191 40
          refine tm_callV (M := m_X12_signed) (pc := 122) (ix := 310) (M' := m_X12_joins) (As := [.int (iI 2), .int (iI 1), .int (iI 0), .int (iI (σ188.1 39)), .int (iI (σ188.1 40))]) (rest := []) dX12_signed_122 ok_X12_joins im_X12_joins se_X12_joins ml12_310 np_X12_joins rfl rfl (Nat.le_of_ble_eq_true rfl) (Nat.le_of_ble_eq_true rfl) rfl (c_X12_joins (d + 4 * lv + 5) (σ := σ194) (k := 2) (ak := 1) (a := 0) (bk := σ188.1 39) (c := σ188.1 40) f198 (by omega) (by decide) (by omega) (by have z := gt; unfold GTm at z; omega) (by omega) (by omega) (by omega)) (fun r204 σ205 hp => ?_)
          obtain ⟨rfl, f207, f208, f209, f210, f211⟩ := hp
          show Tm _ _ 125 b σ205 [(1, .int (iI v3)), (0, .ref b)] [] _
          have tr14 := tr13.join f207 ⟨f209.1, f209.2.1⟩ f210 f211 (by decide) hrd
          have gtj : GTm σ205 := by unfold GTm; rw [f209.2.2.1, f209.2.2.2, f209.1]; exact ⟨Or.inr rfl, fun _ => by omega⟩
          refine tm_iconst dX12_signed_125 ?_
          exact tm_zret (v := 1) rfl (by decide) dX12_signed_126 (⟨_, rfl, by omega, (((((Fr.rfl.trans (Fr.sub f108 (by decide) (by decide) (by decide))).trans (Fr.sub f182 (by decide) (by decide) (by decide))).trans (Fr.sub f190 (by decide) (by decide) (by decide))).trans (Fr.sub f197 (by decide) (by decide) (by decide))).trans (Fr.sub f207 (by decide) (by decide) (by decide))), f208, tr14.1, fun _ => tr14.exs (by decide) gtj (by rw [f207.1 28 (by decide)]; exact e28), tr14.prs, by rw [f207.1 28 (by decide)]; exact e28⟩)
    · refine tm_aload_n dX12_signed_23 rfl 1 rfl ?_
      refine tm_iconst dX12_signed_24 ?_
      refine tm_aload_n dX12_signed_25 rfl 1 rfl ?_
      refine tm_getS (k := 23) (t := σ105.1 23) dX12_signed_26 (by decide) fl12_223 rfl (rfl) ?_
      have g212 := RG.s f109 23
      refine tm_callV (M := m_X12_signed) (pc := 29) (ix := 301) (M' := m_X12_give) (As := [.int (iI 1), .int (iI (σ105.1 23))]) (rest := []) dX12_signed_29 ok_X12_give im_X12_give se_X12_give ml12_301 np_X12_give rfl rfl (Nat.le_of_ble_eq_true rfl) (Nat.le_of_ble_eq_true rfl) rfl (c2_X12_give (d + 4 * lv + 7) (σ := σ105) (k := 1) (w := σ105.1 23) f109 (by omega) (by omega)) (fun r213 σ214 hp => ?_)
      obtain ⟨rfl, f216, f217, f218⟩ := hp
      show Tm _ _ 32 b σ214 [(1, .int (iI v3)), (0, .ref b)] [] _
      have tr15 := tr8.nop f216 (by decide) (by decide) (by decide) (by decide)
      have gv := f218
      have so3 : σ214.1 22 = 3 := by rw [f216.1 22 (by decide)]; omega
      refine tm_aload_n dX12_signed_32 rfl 1 rfl ?_
      refine tm_callV (M := m_X12_signed) (pc := 33) (ix := 265) (M' := m_X12_advance) (As := []) (rest := []) dX12_signed_33 ok_X12_advance im_X12_advance se_X12_advance ml12_265 np_X12_advance rfl rfl (Nat.le_of_ble_eq_true rfl) (Nat.le_of_ble_eq_true rfl) rfl (c_X12_advance (d + 4 * lv + 3) (σ := σ214)  f217 (by have z := tr15.2.2.1.1.1; omega)) (fun r219 σ220 hp => ?_)
      obtain ⟨rfl, f222, f223, f224, f225, f226⟩ := hp
      show Tm _ _ 36 b σ220 [(1, .int (iI v3)), (0, .ref b)] [] _
      have tr16 := tr15.adv f223 f225 f226 (by omega) (fun q => g1d so3 f222)
      have gt : GTm σ220 := by unfold GTm; rw [f223.1 39 (by decide), f223.1 40 (by decide), gv.1]; exact ⟨Or.inl rfl, fun q => absurd q (by decide)⟩
      have e28 : σ220.1 28 = σ.1 28 := rs_F f223 (by decide) (rs_F f216 (by decide) (rs_F f108 (by decide) (rfl)))
      refine tm_goto (tgt := 106) dX12_signed_36 (by decide) ?_
      have rdj := tr16.2.2.1.2
      have tkj := tr16.2.2.1.1.1
      refine tm_iload_n dX12_signed_106 rfl 0 rfl ?_
      refine tm_if_eq (tgt := 125) dX12_signed_107 (by decide) ⟨by omega, by omega⟩ (fun h227 => ?_) (fun h227 => ?_)
      · exact absurd h227 (by omega)
      · refine tm_aload_n dX12_signed_110 rfl 1 rfl ?_
        refine tm_iconst dX12_signed_111 ?_
        refine tm_iconst dX12_signed_112 ?_
        refine tm_iconst dX12_signed_113 ?_
        refine tm_aload_n dX12_signed_114 rfl 1 rfl ?_
        refine tm_getS (k := 39) (t := σ214.1 39) dX12_signed_115 (by decide) fl12_285 rfl (rs_F f223 (by decide) (rfl)) ?_
        have g228 := RG.s f217 39
        refine tm_aload_n dX12_signed_118 rfl 1 rfl ?_
        refine tm_getS (k := 40) (t := σ214.1 40) dX12_signed_119 (by decide) fl12_288 rfl (rs_F f223 (by decide) (rfl)) ?_
        have g229 := RG.s f217 40
        refine tm_callV (M := m_X12_signed) (pc := 122) (ix := 310) (M' := m_X12_joins) (As := [.int (iI 2), .int (iI 1), .int (iI 0), .int (iI (σ214.1 39)), .int (iI (σ214.1 40))]) (rest := []) dX12_signed_122 ok_X12_joins im_X12_joins se_X12_joins ml12_310 np_X12_joins rfl rfl (Nat.le_of_ble_eq_true rfl) (Nat.le_of_ble_eq_true rfl) rfl (c_X12_joins (d + 4 * lv + 5) (σ := σ220) (k := 2) (ak := 1) (a := 0) (bk := σ214.1 39) (c := σ214.1 40) f224 (by omega) (by decide) (by omega) (by have z := gt; unfold GTm at z; omega) (by omega) (by omega) (by omega)) (fun r230 σ231 hp => ?_)
        obtain ⟨rfl, f233, f234, f235, f236, f237⟩ := hp
        show Tm _ _ 125 b σ231 [(1, .int (iI v3)), (0, .ref b)] [] _
        have tr17 := tr16.join f233 ⟨f235.1, f235.2.1⟩ f236 f237 (by decide) hrd
        have gtj : GTm σ231 := by unfold GTm; rw [f235.2.2.1, f235.2.2.2, f235.1]; exact ⟨Or.inr rfl, fun _ => by omega⟩
        refine tm_iconst dX12_signed_125 ?_
        exact tm_zret (v := 1) rfl (by decide) dX12_signed_126 (⟨_, rfl, by omega, ((((Fr.rfl.trans (Fr.sub f108 (by decide) (by decide) (by decide))).trans (Fr.sub f216 (by decide) (by decide) (by decide))).trans (Fr.sub f223 (by decide) (by decide) (by decide))).trans (Fr.sub f233 (by decide) (by decide) (by decide))), f234, tr17.1, fun _ => tr17.exs (by decide) gtj (by rw [f233.1 28 (by decide)]; exact e28), tr17.prs, by rw [f233.1 28 (by decide)]; exact e28⟩)
