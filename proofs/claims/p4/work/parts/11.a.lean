theorem fl12_216 : Cond.fieldLink RX12 216 (TX12 19).1 (TX12 19).2.1 (TX12 19).2.2.1 ∈ pWW := pw7 (List.mem_of_getElem? (i := 26) rfl) rfl
theorem dX12_wrong_0 : decode cX12_wrong 0 = .ok (.aload_n 0, 1) := by decide +kernel
theorem dX12_wrong_1 : decode cX12_wrong 1 = .ok (.getfield 252, 3) := by decide +kernel
theorem dX12_wrong_4 : decode cX12_wrong 4 = .ok (.ifCond .ne 16, 3) := by decide +kernel
theorem dX12_wrong_20 : decode cX12_wrong 20 = .ok (.iconst 0, 1) := by decide +kernel
theorem dX12_wrong_21 : decode cX12_wrong 21 = .ok (.ireturn, 1) := by decide +kernel
theorem dX12_wrong_7 : decode cX12_wrong 7 = .ok (.aload_n 0, 1) := by decide +kernel
theorem dX12_wrong_8 : decode cX12_wrong 8 = .ok (.iconst 1, 1) := by decide +kernel
theorem dX12_wrong_9 : decode cX12_wrong 9 = .ok (.putfield 252, 3) := by decide +kernel
theorem dX12_wrong_12 : decode cX12_wrong 12 = .ok (.aload_n 0, 1) := by decide +kernel
theorem dX12_wrong_13 : decode cX12_wrong 13 = .ok (.aload_n 0, 1) := by decide +kernel
theorem dX12_wrong_14 : decode cX12_wrong 14 = .ok (.getfield 216, 3) := by decide +kernel
theorem dX12_wrong_17 : decode cX12_wrong 17 = .ok (.putfield 59, 3) := by decide +kernel
set_option maxHeartbeats 4000000 in
set_option maxRecDepth 20000 in
theorem c_X12_wrong (d : Nat) {b : Nat} {σ : MS} (hR : RG σ) : Tm (d + 1) m_X12_wrong 0 b σ [(0, .ref b)] [] (fun ro σ2 => ∃ v : Int, ro = some (.int (iI v)) ∧ (v = 0) ∧ (Fr [26, 27] [] [] σ σ2) ∧ (RG σ2) ∧ (σ2.1 26 ≠ 0) ∧ (σ.1 26 ≠ 0 → σ2 = σ) ∧ (σ.1 26 = 0 → σ2 = sS 27 (σ.1 19) (sS 26 1 σ))) := by
  refine tm_aload_n dX12_wrong_0 rfl 0 rfl ?_
  refine tm_getS (k := 26) (t := σ.1 26) dX12_wrong_1 (by decide) fl12_252 rfl (rfl) ?_
  have g1 := RG.s hR 26
  refine tm_if_ne (tgt := 20) dX12_wrong_4 (by decide) ⟨by omega, by omega⟩ (fun h2 => ?_) (fun h2 => ?_)
  · refine tm_iconst dX12_wrong_20 ?_
    exact tm_zret (v := 0) rfl (by decide) dX12_wrong_21 (⟨_, rfl, by omega, Fr.rfl, hR, by omega, fun _ => rfl, fun q => absurd q (by omega)⟩)
  · refine tm_aload_n dX12_wrong_7 rfl 0 rfl ?_
    refine tm_iconst dX12_wrong_8 ?_
    refine tm_putS (k := 26) (v := 1) lay_12 dX12_wrong_9 (by decide) fl12_252 rfl (tyX12_ok 26 (by decide)) rfl rfl rfl ?_
    refine tm_aload_n dX12_wrong_12 rfl 0 rfl ?_
    refine tm_aload_n dX12_wrong_13 rfl 0 rfl ?_
    refine tm_getS (k := 19) (t := σ.1 19) dX12_wrong_14 (by decide) fl12_216 rfl (rs_o (by decide) (rfl)) ?_
    have g3 := RG.s hR 19
    refine tm_putS (k := 27) (v := σ.1 19) lay_12 dX12_wrong_17 (by decide) fl12_59 rfl (tyX12_ok 27 (by decide)) rfl rfl rfl ?_
    refine tm_iconst dX12_wrong_20 ?_
    exact tm_zret (v := 0) rfl (by decide) dX12_wrong_21 (⟨_, rfl, by omega, ((Fr.rfl.S (by decide)).S (by decide)), ((hR.S (by omega)).S (by omega)), by rw [show (sS 27 (σ.1 19) (sS 26 1 σ)).1 26 = 1 from rfl]; decide, fun q => absurd (by omega) q, fun _ => rfl⟩)
theorem fl12_255 : Cond.fieldLink RX12 255 (TX12 25).1 (TX12 25).2.1 (TX12 25).2.2.1 ∈ pWW := pw7 (List.mem_of_getElem? (i := 32) rfl) rfl
theorem dX12_note_0 : decode cX12_note 0 = .ok (.aload_n 0, 1) := by decide +kernel
theorem dX12_note_1 : decode cX12_note 1 = .ok (.getfield 255, 3) := by decide +kernel
theorem dX12_note_4 : decode cX12_note 4 = .ok (.ifCond .le 44, 3) := by decide +kernel
theorem dX12_note_48 : decode cX12_note 48 = .ok (.return_, 1) := by decide +kernel
theorem dX12_note_7 : decode cX12_note 7 = .ok (.aload_n 0, 1) := by decide +kernel
theorem dX12_note_8 : decode cX12_note 8 = .ok (.getfield 252, 3) := by decide +kernel
theorem dX12_note_11 : decode cX12_note 11 = .ok (.ifCond .eq 27, 3) := by decide +kernel
theorem dX12_note_38 : decode cX12_note 38 = .ok (.aload_n 0, 1) := by decide +kernel
theorem dX12_note_39 : decode cX12_note 39 = .ok (.iload_n 1, 1) := by decide +kernel
theorem dX12_note_40 : decode cX12_note 40 = .ok (.putfield 252, 3) := by decide +kernel
theorem dX12_note_43 : decode cX12_note 43 = .ok (.aload_n 0, 1) := by decide +kernel
theorem dX12_note_44 : decode cX12_note 44 = .ok (.iload_n 2, 1) := by decide +kernel
theorem dX12_note_45 : decode cX12_note 45 = .ok (.putfield 59, 3) := by decide +kernel
theorem dX12_note_14 : decode cX12_note 14 = .ok (.iload_n 2, 1) := by decide +kernel
theorem dX12_note_15 : decode cX12_note 15 = .ok (.aload_n 0, 1) := by decide +kernel
theorem dX12_note_16 : decode cX12_note 16 = .ok (.getfield 59, 3) := by decide +kernel
theorem dX12_note_19 : decode cX12_note 19 = .ok (.if_icmp .lt 19, 3) := by decide +kernel
theorem dX12_note_22 : decode cX12_note 22 = .ok (.iload_n 2, 1) := by decide +kernel
theorem dX12_note_23 : decode cX12_note 23 = .ok (.aload_n 0, 1) := by decide +kernel
theorem dX12_note_24 : decode cX12_note 24 = .ok (.getfield 59, 3) := by decide +kernel
theorem dX12_note_27 : decode cX12_note 27 = .ok (.if_icmp .ne 21, 3) := by decide +kernel
theorem dX12_note_30 : decode cX12_note 30 = .ok (.iload_n 1, 1) := by decide +kernel
theorem dX12_note_31 : decode cX12_note 31 = .ok (.aload_n 0, 1) := by decide +kernel
theorem dX12_note_32 : decode cX12_note 32 = .ok (.getfield 252, 3) := by decide +kernel
theorem dX12_note_35 : decode cX12_note 35 = .ok (.if_icmp .ge 13, 3) := by decide +kernel
set_option maxHeartbeats 4000000 in
set_option maxRecDepth 20000 in
theorem c_X12_note (d : Nat) {b : Nat} {σ : MS} {f : Int} {p : Int} (hR : RG σ) (h_f : -2147483648 ≤ f ∧ f ≤ 2147483647) (h_p : -2147483648 ≤ p ∧ p ≤ 2147483647) : Tm (d + 1) m_X12_note 0 b σ [(0, .ref b), (1, .int (iI f)), (2, .int (iI p))] [] (fun ro σ2 => ro = none ∧ (Fr [26, 27] [] [] σ σ2) ∧ (RG σ2)) := by
  refine tm_aload_n dX12_note_0 rfl 0 rfl ?_
  refine tm_getS (k := 25) (t := σ.1 25) dX12_note_1 (by decide) fl12_255 rfl (rfl) ?_
  have g1 := RG.s hR 25
  refine tm_if_le (tgt := 48) dX12_note_4 (by decide) ⟨by omega, by omega⟩ (fun h2 => ?_) (fun h2 => ?_)
  · exact tm_vret rfl dX12_note_48 (⟨rfl, Fr.rfl, hR⟩)
  · refine tm_aload_n dX12_note_7 rfl 0 rfl ?_
    refine tm_getS (k := 26) (t := σ.1 26) dX12_note_8 (by decide) fl12_252 rfl (rfl) ?_
    have g3 := RG.s hR 26
    refine tm_if_eq (tgt := 38) dX12_note_11 (by decide) ⟨by omega, by omega⟩ (fun h4 => ?_) (fun h4 => ?_)
    · refine tm_aload_n dX12_note_38 rfl 0 rfl ?_
      refine tm_iload_n dX12_note_39 rfl 1 rfl ?_
      refine tm_putS (k := 26) (v := f) lay_12 dX12_note_40 (by decide) fl12_252 rfl (tyX12_ok 26 (by decide)) rfl rfl rfl ?_
      refine tm_aload_n dX12_note_43 rfl 0 rfl ?_
      refine tm_iload_n dX12_note_44 rfl 2 rfl ?_
      refine tm_putS (k := 27) (v := p) lay_12 dX12_note_45 (by decide) fl12_59 rfl (tyX12_ok 27 (by decide)) rfl rfl rfl ?_
      exact tm_vret rfl dX12_note_48 (⟨rfl, ((Fr.rfl.S (by decide)).S (by decide)), ((hR.S (by omega)).S (by omega))⟩)
    · refine tm_iload_n dX12_note_14 rfl 2 rfl ?_
      refine tm_aload_n dX12_note_15 rfl 0 rfl ?_
      refine tm_getS (k := 27) (t := σ.1 27) dX12_note_16 (by decide) fl12_59 rfl (rfl) ?_
      have g5 := RG.s hR 27
      refine tm_icmp_lt (tgt := 38) dX12_note_19 (by decide) ⟨by omega, by omega⟩ ⟨by omega, by omega⟩ (fun h6 => ?_) (fun h6 => ?_)
      · refine tm_aload_n dX12_note_38 rfl 0 rfl ?_
        refine tm_iload_n dX12_note_39 rfl 1 rfl ?_
        refine tm_putS (k := 26) (v := f) lay_12 dX12_note_40 (by decide) fl12_252 rfl (tyX12_ok 26 (by decide)) rfl rfl rfl ?_
        refine tm_aload_n dX12_note_43 rfl 0 rfl ?_
        refine tm_iload_n dX12_note_44 rfl 2 rfl ?_
        refine tm_putS (k := 27) (v := p) lay_12 dX12_note_45 (by decide) fl12_59 rfl (tyX12_ok 27 (by decide)) rfl rfl rfl ?_
        exact tm_vret rfl dX12_note_48 (⟨rfl, ((Fr.rfl.S (by decide)).S (by decide)), ((hR.S (by omega)).S (by omega))⟩)
      · refine tm_iload_n dX12_note_22 rfl 2 rfl ?_
        refine tm_aload_n dX12_note_23 rfl 0 rfl ?_
        refine tm_getS (k := 27) (t := σ.1 27) dX12_note_24 (by decide) fl12_59 rfl (rfl) ?_
        have g7 := RG.s hR 27
        refine tm_icmp_ne (tgt := 48) dX12_note_27 (by decide) ⟨by omega, by omega⟩ ⟨by omega, by omega⟩ (fun h8 => ?_) (fun h8 => ?_)
        · exact tm_vret rfl dX12_note_48 (⟨rfl, Fr.rfl, hR⟩)
        · refine tm_iload_n dX12_note_30 rfl 1 rfl ?_
          refine tm_aload_n dX12_note_31 rfl 0 rfl ?_
          refine tm_getS (k := 26) (t := σ.1 26) dX12_note_32 (by decide) fl12_252 rfl (rfl) ?_
          have g9 := RG.s hR 26
          refine tm_icmp_ge (tgt := 48) dX12_note_35 (by decide) ⟨by omega, by omega⟩ ⟨by omega, by omega⟩ (fun h10 => ?_) (fun h10 => ?_)
          · exact tm_vret rfl dX12_note_48 (⟨rfl, Fr.rfl, hR⟩)
          · refine tm_aload_n dX12_note_38 rfl 0 rfl ?_
            refine tm_iload_n dX12_note_39 rfl 1 rfl ?_
            refine tm_putS (k := 26) (v := f) lay_12 dX12_note_40 (by decide) fl12_252 rfl (tyX12_ok 26 (by decide)) rfl rfl rfl ?_
            refine tm_aload_n dX12_note_43 rfl 0 rfl ?_
            refine tm_iload_n dX12_note_44 rfl 2 rfl ?_
            refine tm_putS (k := 27) (v := p) lay_12 dX12_note_45 (by decide) fl12_59 rfl (tyX12_ok 27 (by decide)) rfl rfl rfl ?_
            exact tm_vret rfl dX12_note_48 (⟨rfl, ((Fr.rfl.S (by decide)).S (by decide)), ((hR.S (by omega)).S (by omega))⟩)
