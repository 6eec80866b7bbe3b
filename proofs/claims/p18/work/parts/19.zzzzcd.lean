section
set_option maxHeartbeats 2000000 in
set_option maxRecDepth 20000 in
theorem f_X12_told (d : Nat) {b : Nat} {σ : MS} {x : Int} {k : Int} {f : Int} {n : Int} {w : Int} (hR : RG σ) (hit : ITM σ) (hpar : PAR σ) (hnam : NAM σ) (hrt : RTN σ) (hl : LAB σ) (hbo : BO 47 σ) (hbh : BO 48 σ) (hss : SSA σ) (hsc : SCH σ) (h_x : -2147483648 ≤ x ∧ x ≤ 2147483647) (h_k : -2147483648 ≤ k ∧ k ≤ 2147483647) (h_f : -2147483648 ≤ f ∧ f ≤ 2147483647) (h_n : -2147483648 ≤ n ∧ n ≤ 2147483647) (h_w : -2147483648 ≤ w ∧ w ≤ 2147483647) : Tm (d + 6) m_X12_told 0 b σ [(0, .ref b), (1, .int (iI x)), (2, .int (iI k)), (3, .int (iI f)), (4, .int (iI n)), (5, .int (iI w))] [] (fun ro σ2 => ∃ v : Int, ro = some (.int (iI v)) ∧ (Fr [0] [46, 47, 48, 49, 50, 51, 52, 53, 54, 55, 56, 57, 58] [] σ σ2) ∧ (RG σ2) ∧ (LAB σ2) ∧ (BO 47 σ2) ∧ (BO 48 σ2) ∧ (SSA σ2) ∧ (SCH σ2)) := by
  refine tm_aload_n dX12_told_0 rfl 0 rfl ?_
  refine tm_iconst dX12_told_1 ?_
  refine tm_putS (k := 0) (v := 0) lay_12 dX12_told_2 (by decide) fl12_185 rfl (tyX12_ok 0 (by decide)) rfl rfl rfl ?_
  refine tm_aload_n dX12_told_5 rfl 0 rfl ?_
  refine tm_iload_n dX12_told_6 rfl 1 rfl ?_
  refine tm_callV (M := m_X12_told) (pc := 7) (ix := 404) (M' := m_X12_isRoutine) (As := [.int (iI x)]) (rest := []) dX12_told_7 ok_X12_isRoutine im_X12_isRoutine se_X12_isRoutine ml12_404 np_X12_isRoutine rfl rfl (Nat.le_of_ble_eq_true rfl) (Nat.le_of_ble_eq_true rfl) rfl (c_X12_isRoutine (d + 3) (σ := (sS 0 0 σ)) (x := x) (hR.S (by omega)) hrt.1 (by omega)) (fun r1 σ2 hp => ?_)
  obtain ⟨v3, rfl, rfl, f4, f5⟩ := hp
  show Tm _ _ 10 b (sS 0 0 σ) [(0, .ref b), (1, .int (iI x)), (2, .int (iI k)), (3, .int (iI f)), (4, .int (iI n)), (5, .int (iI w))] [.int (iI v3)] _
  have e10 : (sS 0 0 σ).1 10 = σ.1 10 := rfl
  have hrt1 := hrt.1
  refine tm_if_eq (tgt := 80) dX12_told_10 (by decide) ⟨by omega, by omega⟩ (fun h6 => ?_) (fun h6 => ?_)
  · refine tm_iconst dX12_told_80 ?_
    exact tm_iret rfl dX12_told_81 (⟨_, rfl, (Fr.rfl.S (by decide)), (hR.S (by omega)), hl.fr (show Fr [0] [] [] σ (sS 0 0 σ) from (Fr.rfl.S (by decide))) (by decide), hbo.fr (show Fr [0] [] [] σ (sS 0 0 σ) from (Fr.rfl.S (by decide))) (by decide), hbh.fr (show Fr [0] [] [] σ (sS 0 0 σ) from (Fr.rfl.S (by decide))) (by decide), hss.fr (show Fr [0] [] [] σ (sS 0 0 σ) from (Fr.rfl.S (by decide))) (by decide), hsc.fr (show Fr [0] [] [] σ (sS 0 0 σ) from (Fr.rfl.S (by decide))) (by decide)⟩)
  · have hri := hrt.2 x (by omega) (by omega)
    have hof := hri.2.1
    have hok := hri.2.2.1
    have q1 := hof.1
    have q2 := hnam x (by omega) (by omega)
    have q3 := hpar x (by omega) (by omega)
    refine tm_iload_n dX12_told_13 rfl 2 rfl ?_
    refine tm_iconst dX12_told_14 ?_
    refine tm_aload_n dX12_told_15 rfl 0 rfl ?_
    refine tm_get (k := 9) (v := .ref (b + 1 + 7)) lay_12 dX12_told_16 (by decide) fl12_32 rfl ?_
    refine tm_iload_n dX12_told_19 rfl 1 rfl ?_
    refine tm_iald (z := x) (v := σ.2.1 9 x) dX12_told_20 (show mT[7]? = some (9, 0, 13) from rfl) (by omega) (by omega) (by decide) (ra_S (rfl)) ?_
    have g7 := RG.a hR 9 (x)
    refine tm_callS (M := m_X12_told) (pc := 21) (ix := 188) (M' := m_X12_in) (As := [.int (iI k), .int (iI 0), .int (iI (σ.2.1 9 x))]) (rest := []) dX12_told_21 ok_X12_in stt_X12_in ml12_188 np_X12_in rfl (Nat.le_of_ble_eq_true rfl) (Nat.le_of_ble_eq_true rfl) rfl (c_X12_in (d + 4) (σ := (sS 0 0 σ)) (x := k) (lo := 0) (hi := σ.2.1 9 x) (by omega) (by omega) (by omega)) (fun r8 σ9 hp => ?_)
    obtain ⟨v10, rfl, rfl, f11, f12⟩ := hp
    show Tm _ _ 24 b (sS 0 0 σ) [(0, .ref b), (1, .int (iI x)), (2, .int (iI k)), (3, .int (iI f)), (4, .int (iI n)), (5, .int (iI w))] [.int (iI v10)] _
    refine tm_if_eq (tgt := 80) dX12_told_24 (by decide) ⟨by omega, by omega⟩ (fun h13 => ?_) (fun h13 => ?_)
    · refine tm_iconst dX12_told_80 ?_
      exact tm_iret rfl dX12_told_81 (⟨_, rfl, (Fr.rfl.S (by decide)), (hR.S (by omega)), hl.fr (show Fr [0] [] [] σ (sS 0 0 σ) from (Fr.rfl.S (by decide))) (by decide), hbo.fr (show Fr [0] [] [] σ (sS 0 0 σ) from (Fr.rfl.S (by decide))) (by decide), hbh.fr (show Fr [0] [] [] σ (sS 0 0 σ) from (Fr.rfl.S (by decide))) (by decide), hss.fr (show Fr [0] [] [] σ (sS 0 0 σ) from (Fr.rfl.S (by decide))) (by decide), hsc.fr (show Fr [0] [] [] σ (sS 0 0 σ) from (Fr.rfl.S (by decide))) (by decide)⟩)
    · refine tm_iload_n dX12_told_27 rfl 3 rfl ?_
      refine tm_iconst dX12_told_28 ?_
      refine tm_aload_n dX12_told_29 rfl 0 rfl ?_
      refine tm_get (k := 14) (v := .ref (b + 1 + 11)) lay_12 dX12_told_30 (by decide) fl12_44 rfl ?_
      refine tm_iload_n dX12_told_33 rfl 1 rfl ?_
      refine tm_iald (z := x) (v := σ.2.1 14 x) dX12_told_34 (show mT[11]? = some (14, 0, 6) from rfl) (by omega) (by omega) (by decide) (ra_S (rfl)) ?_
      have g14 := RG.a hR 14 (x)
      refine tm_iconst dX12_told_35 ?_
      refine tm_isub dX12_told_36 ?_
      refine tm_callS (M := m_X12_told) (pc := 37) (ix := 188) (M' := m_X12_in) (As := [.int (iI f), .int (iI 0), .int (iI ((σ.2.1 14 x) - 1))]) (rest := []) dX12_told_37 ok_X12_in stt_X12_in ml12_188 np_X12_in rfl (Nat.le_of_ble_eq_true rfl) (Nat.le_of_ble_eq_true rfl) rfl (c_X12_in (d + 4) (σ := (sS 0 0 σ)) (x := f) (lo := 0) (hi := (σ.2.1 14 x) - 1) (by omega) (by omega) (by omega)) (fun r15 σ16 hp => ?_)
      obtain ⟨v17, rfl, rfl, f18, f19⟩ := hp
      show Tm _ _ 40 b (sS 0 0 σ) [(0, .ref b), (1, .int (iI x)), (2, .int (iI k)), (3, .int (iI f)), (4, .int (iI n)), (5, .int (iI w))] [.int (iI v17)] _
      refine tm_if_eq (tgt := 80) dX12_told_40 (by decide) ⟨by omega, by omega⟩ (fun h20 => ?_) (fun h20 => ?_)
      · refine tm_iconst dX12_told_80 ?_
        exact tm_iret rfl dX12_told_81 (⟨_, rfl, (Fr.rfl.S (by decide)), (hR.S (by omega)), hl.fr (show Fr [0] [] [] σ (sS 0 0 σ) from (Fr.rfl.S (by decide))) (by decide), hbo.fr (show Fr [0] [] [] σ (sS 0 0 σ) from (Fr.rfl.S (by decide))) (by decide), hbh.fr (show Fr [0] [] [] σ (sS 0 0 σ) from (Fr.rfl.S (by decide))) (by decide), hss.fr (show Fr [0] [] [] σ (sS 0 0 σ) from (Fr.rfl.S (by decide))) (by decide), hsc.fr (show Fr [0] [] [] σ (sS 0 0 σ) from (Fr.rfl.S (by decide))) (by decide)⟩)
      · have q4 := (hof.2 f (by omega) (by omega)).1
        have q5 := hnam _ q4.1 q4.2
        refine tm_iload dX12_told_43 4 rfl ?_
        refine tm_iconst dX12_told_45 ?_
        refine tm_aload_n dX12_told_46 rfl 0 rfl ?_
        refine tm_get (k := 12) (v := .ref (b + 1 + 9)) lay_12 dX12_told_47 (by decide) fl12_38 rfl ?_
        refine tm_aload_n dX12_told_50 rfl 0 rfl ?_
        refine tm_get (k := 15) (v := .ref (b + 1 + 12)) lay_12 dX12_told_51 (by decide) fl12_47 rfl ?_
        refine tm_bipush dX12_told_54 (by decide) ?_
        refine tm_iload_n dX12_told_56 rfl 1 rfl ?_
        refine tm_imul dX12_told_57 ?_
        refine tm_iload_n dX12_told_58 rfl 3 rfl ?_
        refine tm_iadd dX12_told_59 ?_
        refine tm_iald (z := (12 * x) + f) (v := σ.2.1 15 ((12 * x) + f)) dX12_told_60 (show mT[12]? = some (15, 0, 72) from rfl) (by omega) (by omega) (by decide) (ra_S (rfl)) ?_
        have g21 := RG.a hR 15 ((12 * x) + f)
        refine tm_iald (z := σ.2.1 15 ((12 * x) + f)) (v := σ.2.1 12 (σ.2.1 15 ((12 * x) + f))) dX12_told_61 (show mT[9]? = some (12, 0, 6) from rfl) (by omega) (by omega) (by decide) (ra_S (rfl)) ?_
        have g22 := RG.a hR 12 (σ.2.1 15 ((12 * x) + f))
        refine tm_iconst dX12_told_62 ?_
        refine tm_isub dX12_told_63 ?_
        refine tm_callS (M := m_X12_told) (pc := 64) (ix := 188) (M' := m_X12_in) (As := [.int (iI n), .int (iI 0), .int (iI ((σ.2.1 12 (σ.2.1 15 ((12 * x) + f))) - 1))]) (rest := []) dX12_told_64 ok_X12_in stt_X12_in ml12_188 np_X12_in rfl (Nat.le_of_ble_eq_true rfl) (Nat.le_of_ble_eq_true rfl) rfl (c_X12_in (d + 4) (σ := (sS 0 0 σ)) (x := n) (lo := 0) (hi := (σ.2.1 12 (σ.2.1 15 ((12 * x) + f))) - 1) (by omega) (by omega) (by omega)) (fun r23 σ24 hp => ?_)
        obtain ⟨v25, rfl, rfl, f26, f27⟩ := hp
        show Tm _ _ 67 b (sS 0 0 σ) [(0, .ref b), (1, .int (iI x)), (2, .int (iI k)), (3, .int (iI f)), (4, .int (iI n)), (5, .int (iI w))] [.int (iI v25)] _
        refine tm_if_eq (tgt := 80) dX12_told_67 (by decide) ⟨by omega, by omega⟩ (fun h32 => ?_) (fun h32 => ?_)
        · refine tm_iconst dX12_told_80 ?_
          exact tm_iret rfl dX12_told_81 (⟨_, rfl, (Fr.rfl.S (by decide)), (hR.S (by omega)), hl.fr (show Fr [0] [] [] σ (sS 0 0 σ) from (Fr.rfl.S (by decide))) (by decide), hbo.fr (show Fr [0] [] [] σ (sS 0 0 σ) from (Fr.rfl.S (by decide))) (by decide), hbh.fr (show Fr [0] [] [] σ (sS 0 0 σ) from (Fr.rfl.S (by decide))) (by decide), hss.fr (show Fr [0] [] [] σ (sS 0 0 σ) from (Fr.rfl.S (by decide))) (by decide), hsc.fr (show Fr [0] [] [] σ (sS 0 0 σ) from (Fr.rfl.S (by decide))) (by decide)⟩)
        · refine tm_iload dX12_told_70 5 rfl ?_
          refine tm_iconst dX12_told_72 ?_
          refine tm_iconst dX12_told_73 ?_
          refine tm_callS (M := m_X12_told) (pc := 74) (ix := 188) (M' := m_X12_in) (As := [.int (iI w), .int (iI 0), .int (iI 4)]) (rest := []) dX12_told_74 ok_X12_in stt_X12_in ml12_188 np_X12_in rfl (Nat.le_of_ble_eq_true rfl) (Nat.le_of_ble_eq_true rfl) rfl (c_X12_in (d + 4) (σ := (sS 0 0 σ)) (x := w) (lo := 0) (hi := 4) (by omega) (by omega) (by omega)) (fun r33 σ34 hp => ?_)
          obtain ⟨v35, rfl, rfl, f36, f37⟩ := hp
          show Tm _ _ 77 b (sS 0 0 σ) [(0, .ref b), (1, .int (iI x)), (2, .int (iI k)), (3, .int (iI f)), (4, .int (iI n)), (5, .int (iI w))] [.int (iI v35)] _
          refine tm_if_ne (tgt := 82) dX12_told_77 (by decide) ⟨by omega, by omega⟩ (fun h38 => ?_) (fun h38 => ?_)
          · refine tm_aload_n dX12_told_82 rfl 0 rfl ?_
            refine tm_iload_n dX12_told_83 rfl 1 rfl ?_
            refine tm_callV (M := m_X12_told) (pc := 84) (ix := 430) (M' := m_X12_findStates) (As := [.int (iI x)]) (rest := []) dX12_told_84 ok_X12_findStates im_X12_findStates se_X12_findStates ml12_430 np_X12_findStates rfl rfl (Nat.le_of_ble_eq_true rfl) (Nat.le_of_ble_eq_true rfl) rfl (f_X12_findStates (d) (σ := (sS 0 0 σ)) (r := x) (F := σ.2.1 14 x) (by omega) (hR.S (by omega)) (hit.fr (show Fr [0] [] [] σ (sS 0 0 σ) from (Fr.rfl.S (by decide))) (by decide)) (hpar.fr (show Fr [0] [] [] σ (sS 0 0 σ) from (Fr.rfl.S (by decide))) (by decide)) (hnam.fr (show Fr [0] [] [] σ (sS 0 0 σ) from (Fr.rfl.S (by decide))) (by decide)) (hok.fr (show Fr [0] [] [] σ (sS 0 0 σ) from (Fr.rfl.S (by decide))) (by decide)) (by omega) (hof.fr (show Fr [0] [] [] σ (sS 0 0 σ) from (Fr.rfl.S (by decide))) (by decide)) hri.2.2.2.1 (hl.fr (show Fr [0] [] [] σ (sS 0 0 σ) from (Fr.rfl.S (by decide))) (by decide)) (hbo.fr (show Fr [0] [] [] σ (sS 0 0 σ) from (Fr.rfl.S (by decide))) (by decide)) (hbh.fr (show Fr [0] [] [] σ (sS 0 0 σ) from (Fr.rfl.S (by decide))) (by decide)) (hss.fr (show Fr [0] [] [] σ (sS 0 0 σ) from (Fr.rfl.S (by decide))) (by decide)) (hsc.fr (show Fr [0] [] [] σ (sS 0 0 σ) from (Fr.rfl.S (by decide))) (by decide)).1 (LEX.fr hri.2.2.2.2 (show Fr [0] [] [] σ (sS 0 0 σ) from (Fr.rfl.S (by decide))) (by decide)) ((hsc.fr (show Fr [0] [] [] σ (sS 0 0 σ) from (Fr.rfl.S (by decide))) (by decide)).2.2 _ (by omega) (by have e9 := ((show Fr [0] [] [] σ (sS 0 0 σ) from (Fr.rfl.S (by decide)))).1 10 (by decide); omega)) (hsc.fr (show Fr [0] [] [] σ (sS 0 0 σ) from (Fr.rfl.S (by decide))) (by decide)).2.1.1 (fun z9 => ((hsc.fr (show Fr [0] [] [] σ (sS 0 0 σ) from (Fr.rfl.S (by decide))) (by decide)).2.1.2 _ (by omega) (by omega) z9).2)) (fun r39 σ40 hp => ?_)
            obtain ⟨rfl, f42, f43, f44, f45, f46, f47, f48, f49⟩ := hp
            show Tm _ _ 87 b σ40 [(0, .ref b), (1, .int (iI x)), (2, .int (iI k)), (3, .int (iI f)), (4, .int (iI n)), (5, .int (iI w))] [] _
            have k2 := f44
            have k3 := f45
            have k4 := f46
            have k5 := f47
            have k6 := f48
            have k7 := f49
            have k8 : SCH σ40 := ⟨k6, HSI.fso (hsc.fr (show Fr [0] [] [] σ (sS 0 0 σ) from (Fr.rfl.S (by decide))) (by decide)).2.1 k7 (hit.fr (show Fr [0] [] [] σ (sS 0 0 σ) from (Fr.rfl.S (by decide))) (by decide)) (fun q => rv_fr f42 (by decide)) (f42.2.1 9 (by decide)) (fun q => bgT.fr f42 (by decide)) (f42.1 10 (by decide)) (by have e9 := ((show Fr [0] [] [] σ (sS 0 0 σ) from (Fr.rfl.S (by decide)))).1 10 (by decide); omega), (hsc.fr (show Fr [0] [] [] σ (sS 0 0 σ) from (Fr.rfl.S (by decide))) (by decide)).2.2.fr f42 (by decide) (by decide)⟩
            refine tm_sipush dX12_told_87 (by decide) ?_
            refine tm_iload_n dX12_told_90 rfl 1 rfl ?_
            refine tm_imul dX12_told_91 ?_
            refine tm_sipush dX12_told_92 (by decide) ?_
            refine tm_iload_n dX12_told_95 rfl 2 rfl ?_
            refine tm_imul dX12_told_96 ?_
            refine tm_iadd dX12_told_97 ?_
            refine tm_bipush dX12_told_98 (by decide) ?_
            refine tm_iload_n dX12_told_100 rfl 3 rfl ?_
            refine tm_imul dX12_told_101 ?_
            refine tm_iadd dX12_told_102 ?_
            refine tm_iload dX12_told_103 4 rfl ?_
            refine tm_iadd dX12_told_105 ?_
            refine tm_istore (L' := [(6, .int (iI ((((31824 * x) + (144 * k)) + (12 * f)) + n))), (0, .ref b), (1, .int (iI x)), (2, .int (iI k)), (3, .int (iI f)), (4, .int (iI n)), (5, .int (iI w))]) dX12_told_106 (by decide) rfl ?_
            refine tm_iload dX12_told_108 6 rfl ?_
            by_cases h50 : w < 0 ∨ 3 < w
            · refine tm_tableOut (tgt := 172) dX12_told_110 ⟨by omega, by omega⟩ h50 (by decide) ?_
              refine tm_aload_n dX12_told_172 rfl 1 rfl ?_
              refine tm_get (k := 53) (v := .ref (b + 1 + 31)) lay_12 dX12_told_173 (by decide) fl12_111 rfl ?_
              refine tm_iload dX12_told_176 0 rfl ?_
              refine tm_iald (z := (((31824 * x) + (144 * k)) + (12 * f)) + n) (v := σ40.2.1 53 ((((31824 * x) + (144 * k)) + (12 * f)) + n)) dX12_told_178 (show mT[31]? = some (53, 0, 190944) from rfl) (by omega) (by omega) (by decide) (rfl) ?_
              have g51 := RG.a f43 53 ((((31824 * x) + (144 * k)) + (12 * f)) + n)
              exact tm_iret rfl dX12_told_179 (⟨_, rfl, ((Fr.rfl.S (by decide)).trans (Fr.sub f42 (by decide) (by decide) (by decide))), f43, k2, k3, k4, k5, k8⟩)
            · have h50c : w = 0 ∨ w = 1 ∨ w = 2 ∨ w = 3 := by omega
              rcases h50c with h50v | h50v | h50v | h50v
              · refine tm_tableIn (tgt := 140) dX12_told_110 ⟨by omega, by omega⟩ (by omega) (by omega) (show _ = some (30) by rw [h50v]; rfl) (by decide) ?_
                refine tm_aload_n dX12_told_140 rfl 1 rfl ?_
                refine tm_get (k := 49) (v := .ref (b + 1 + 27)) lay_12 dX12_told_141 (by decide) fl12_99 rfl ?_
                refine tm_iload dX12_told_144 0 rfl ?_
                refine tm_iald (z := (((31824 * x) + (144 * k)) + (12 * f)) + n) (v := σ40.2.1 49 ((((31824 * x) + (144 * k)) + (12 * f)) + n)) dX12_told_146 (show mT[27]? = some (49, 0, 190944) from rfl) (by omega) (by omega) (by decide) (rfl) ?_
                have g52 := RG.a f43 49 ((((31824 * x) + (144 * k)) + (12 * f)) + n)
                exact tm_iret rfl dX12_told_147 (⟨_, rfl, ((Fr.rfl.S (by decide)).trans (Fr.sub f42 (by decide) (by decide) (by decide))), f43, k2, k3, k4, k5, k8⟩)
              · refine tm_tableIn (tgt := 148) dX12_told_110 ⟨by omega, by omega⟩ (by omega) (by omega) (show _ = some (38) by rw [h50v]; rfl) (by decide) ?_
                refine tm_aload_n dX12_told_148 rfl 1 rfl ?_
                refine tm_get (k := 50) (v := .ref (b + 1 + 28)) lay_12 dX12_told_149 (by decide) fl12_102 rfl ?_
                refine tm_iload dX12_told_152 0 rfl ?_
                refine tm_iald (z := (((31824 * x) + (144 * k)) + (12 * f)) + n) (v := σ40.2.1 50 ((((31824 * x) + (144 * k)) + (12 * f)) + n)) dX12_told_154 (show mT[28]? = some (50, 0, 190944) from rfl) (by omega) (by omega) (by decide) (rfl) ?_
                have g53 := RG.a f43 50 ((((31824 * x) + (144 * k)) + (12 * f)) + n)
                exact tm_iret rfl dX12_told_155 (⟨_, rfl, ((Fr.rfl.S (by decide)).trans (Fr.sub f42 (by decide) (by decide) (by decide))), f43, k2, k3, k4, k5, k8⟩)
              · refine tm_tableIn (tgt := 156) dX12_told_110 ⟨by omega, by omega⟩ (by omega) (by omega) (show _ = some (46) by rw [h50v]; rfl) (by decide) ?_
                refine tm_aload_n dX12_told_156 rfl 1 rfl ?_
                refine tm_get (k := 52) (v := .ref (b + 1 + 30)) lay_12 dX12_told_157 (by decide) fl12_108 rfl ?_
                refine tm_iload dX12_told_160 0 rfl ?_
                refine tm_iald (z := (((31824 * x) + (144 * k)) + (12 * f)) + n) (v := σ40.2.1 52 ((((31824 * x) + (144 * k)) + (12 * f)) + n)) dX12_told_162 (show mT[30]? = some (52, 0, 190944) from rfl) (by omega) (by omega) (by decide) (rfl) ?_
                have g54 := RG.a f43 52 ((((31824 * x) + (144 * k)) + (12 * f)) + n)
                exact tm_iret rfl dX12_told_163 (⟨_, rfl, ((Fr.rfl.S (by decide)).trans (Fr.sub f42 (by decide) (by decide) (by decide))), f43, k2, k3, k4, k5, k8⟩)
              · refine tm_tableIn (tgt := 164) dX12_told_110 ⟨by omega, by omega⟩ (by omega) (by omega) (show _ = some (54) by rw [h50v]; rfl) (by decide) ?_
                refine tm_aload_n dX12_told_164 rfl 1 rfl ?_
                refine tm_get (k := 51) (v := .ref (b + 1 + 29)) lay_12 dX12_told_165 (by decide) fl12_105 rfl ?_
                refine tm_iload dX12_told_168 0 rfl ?_
                refine tm_iald (z := (((31824 * x) + (144 * k)) + (12 * f)) + n) (v := σ40.2.1 51 ((((31824 * x) + (144 * k)) + (12 * f)) + n)) dX12_told_170 (show mT[29]? = some (51, 0, 190944) from rfl) (by omega) (by omega) (by decide) (rfl) ?_
                have g55 := RG.a f43 51 ((((31824 * x) + (144 * k)) + (12 * f)) + n)
                exact tm_iret rfl dX12_told_171 (⟨_, rfl, ((Fr.rfl.S (by decide)).trans (Fr.sub f42 (by decide) (by decide) (by decide))), f43, k2, k3, k4, k5, k8⟩)
          · refine tm_iconst dX12_told_80 ?_
            exact tm_iret rfl dX12_told_81 (⟨_, rfl, (Fr.rfl.S (by decide)), (hR.S (by omega)), hl.fr (show Fr [0] [] [] σ (sS 0 0 σ) from (Fr.rfl.S (by decide))) (by decide), hbo.fr (show Fr [0] [] [] σ (sS 0 0 σ) from (Fr.rfl.S (by decide))) (by decide), hbh.fr (show Fr [0] [] [] σ (sS 0 0 σ) from (Fr.rfl.S (by decide))) (by decide), hss.fr (show Fr [0] [] [] σ (sS 0 0 σ) from (Fr.rfl.S (by decide))) (by decide), hsc.fr (show Fr [0] [] [] σ (sS 0 0 σ) from (Fr.rfl.S (by decide))) (by decide)⟩)
end
