set_option maxHeartbeats 4000000 in
set_option maxRecDepth 20000 in
theorem c2_X12_note (d : Nat) {b : Nat} {σ : MS} {f : Int} {p : Int} (hR : RG σ) (hf : 1 ≤ f ∧ f ≤ 9) (h_p : -2147483648 ≤ p ∧ p ≤ 2147483647) : Tm (d + 1) m_X12_note 0 b σ [(0, .ref b), (1, .int (iI f)), (2, .int (iI p))] [] (fun ro σ2 => ro = none ∧ (Fr [26, 27] [] [] σ σ2) ∧ (RG σ2) ∧ (FLT σ σ2) ∧ (0 < σ.1 25 → σ2.1 26 ≠ 0) ∧ (σ2 = ntP f p σ)) := by
  refine tm_aload_n dX12_note_0 rfl 0 rfl ?_
  refine tm_getS (k := 25) (t := σ.1 25) dX12_note_1 (by decide) fl12_255 rfl (rfl) ?_
  have g1 := RG.s hR 25
  refine tm_if_le (tgt := 48) dX12_note_4 (by decide) ⟨by omega, by omega⟩ (fun h2 => ?_) (fun h2 => ?_)
  · exact tm_vret rfl dX12_note_48 (⟨rfl, Fr.rfl, hR, FLT.eq rfl, fun q => by omega, by unfold ntP; rw [if_neg (by omega)]⟩)
  · refine tm_aload_n dX12_note_7 rfl 0 rfl ?_
    refine tm_getS (k := 26) (t := σ.1 26) dX12_note_8 (by decide) fl12_252 rfl (rfl) ?_
    have g3 := RG.s hR 26
    refine tm_if_eq (tgt := 38) dX12_note_11 (by decide) ⟨by omega, by omega⟩ (fun h4 => ?_) (fun h4 => ?_)
    · refine tm_aload_n dX12_note_38 rfl 0 rfl ?_
      refine tm_iload_n dX12_note_39 rfl 1 rfl ?_
      refine tm_putS (k := 26) (v := f) lay_12 dX12_note_40 (by decide) fl12_252 rfl (tyX12_ok 26 (by decide)) rfl rfl rfl ?_
      refine tm_aload_n dX12_note_43 rfl 0 rfl ?_
      refine tm_iload_n dX12_note_44 rfl 2 rfl ?_
      refine tm_putS (k := 27) (v := p) lay_12 dX12_note_45 (by decide) fl12_59 rfl (tyX12_ok 27 (by decide)) rfl rfl rfl ?_
      exact tm_vret rfl dX12_note_48 (⟨rfl, ((Fr.rfl.S (by decide)).S (by decide)), ((hR.S (by omega)).S (by omega)), ⟨fun _ => (by rw [show (sS 27 p (sS 26 f σ)).1 26 = f from rs_o (by decide) (rs_eq)]; omega), fun _ => (by rw [show (sS 27 p (sS 26 f σ)).1 26 = f from rs_o (by decide) (rs_eq)]; omega)⟩, fun _ => (by rw [show (sS 27 p (sS 26 f σ)).1 26 = f from rs_o (by decide) (rs_eq)]; omega), by unfold ntP; rw [if_pos (by omega)]⟩)
    · refine tm_iload_n dX12_note_14 rfl 2 rfl ?_
      refine tm_aload_n dX12_note_15 rfl 0 rfl ?_
      refine tm_getS (k := 27) (t := σ.1 27) dX12_note_16 (by decide) fl12_59 rfl (rfl) ?_
      have g5 := RG.s hR 27
      refine tm_icmp_lt (tgt := 38) dX12_note_19 (by decide) ⟨by omega, by omega⟩ ⟨by omega, by omega⟩ (fun h6 => ?_) (fun h6 => ?_)
      · refine tm_aload_n dX12_note_38 rfl 0 rfl ?_
        refine tm_iload_n dX12_note_39 rfl 1 rfl ?_
        refine tm_putS (k := 26) (v := f) lay_12 dX12_note_40 (by decide) fl12_252 rfl (tyX12_ok 26 (by decide)) rfl rfl rfl ?_
        refine tm_aload_n dX12_note_43 rfl 0 rfl ?_
        refine tm_iload_n dX12_note_44 rfl 2 rfl ?_
        refine tm_putS (k := 27) (v := p) lay_12 dX12_note_45 (by decide) fl12_59 rfl (tyX12_ok 27 (by decide)) rfl rfl rfl ?_
        exact tm_vret rfl dX12_note_48 (⟨rfl, ((Fr.rfl.S (by decide)).S (by decide)), ((hR.S (by omega)).S (by omega)), ⟨fun _ => (by rw [show (sS 27 p (sS 26 f σ)).1 26 = f from rs_o (by decide) (rs_eq)]; omega), fun _ => (by rw [show (sS 27 p (sS 26 f σ)).1 26 = f from rs_o (by decide) (rs_eq)]; omega)⟩, fun _ => (by rw [show (sS 27 p (sS 26 f σ)).1 26 = f from rs_o (by decide) (rs_eq)]; omega), by unfold ntP; rw [if_pos (by omega)]⟩)
      · refine tm_iload_n dX12_note_22 rfl 2 rfl ?_
        refine tm_aload_n dX12_note_23 rfl 0 rfl ?_
        refine tm_getS (k := 27) (t := σ.1 27) dX12_note_24 (by decide) fl12_59 rfl (rfl) ?_
        have g7 := RG.s hR 27
        refine tm_icmp_ne (tgt := 48) dX12_note_27 (by decide) ⟨by omega, by omega⟩ ⟨by omega, by omega⟩ (fun h8 => ?_) (fun h8 => ?_)
        · exact tm_vret rfl dX12_note_48 (⟨rfl, Fr.rfl, hR, FLT.eq rfl, fun q => by omega, by unfold ntP; rw [if_neg (by omega)]⟩)
        · refine tm_iload_n dX12_note_30 rfl 1 rfl ?_
          refine tm_aload_n dX12_note_31 rfl 0 rfl ?_
          refine tm_getS (k := 26) (t := σ.1 26) dX12_note_32 (by decide) fl12_252 rfl (rfl) ?_
          have g9 := RG.s hR 26
          refine tm_icmp_ge (tgt := 48) dX12_note_35 (by decide) ⟨by omega, by omega⟩ ⟨by omega, by omega⟩ (fun h10 => ?_) (fun h10 => ?_)
          · exact tm_vret rfl dX12_note_48 (⟨rfl, Fr.rfl, hR, FLT.eq rfl, fun q => by omega, by unfold ntP; rw [if_neg (by omega)]⟩)
          · refine tm_aload_n dX12_note_38 rfl 0 rfl ?_
            refine tm_iload_n dX12_note_39 rfl 1 rfl ?_
            refine tm_putS (k := 26) (v := f) lay_12 dX12_note_40 (by decide) fl12_252 rfl (tyX12_ok 26 (by decide)) rfl rfl rfl ?_
            refine tm_aload_n dX12_note_43 rfl 0 rfl ?_
            refine tm_iload_n dX12_note_44 rfl 2 rfl ?_
            refine tm_putS (k := 27) (v := p) lay_12 dX12_note_45 (by decide) fl12_59 rfl (tyX12_ok 27 (by decide)) rfl rfl rfl ?_
            exact tm_vret rfl dX12_note_48 (⟨rfl, ((Fr.rfl.S (by decide)).S (by decide)), ((hR.S (by omega)).S (by omega)), ⟨fun _ => (by rw [show (sS 27 p (sS 26 f σ)).1 26 = f from rs_o (by decide) (rs_eq)]; omega), fun _ => (by rw [show (sS 27 p (sS 26 f σ)).1 26 = f from rs_o (by decide) (rs_eq)]; omega)⟩, fun _ => (by rw [show (sS 27 p (sS 26 f σ)).1 26 = f from rs_o (by decide) (rs_eq)]; omega), by unfold ntP; rw [if_pos (by omega)]⟩)
set_option maxHeartbeats 4000000 in
set_option maxRecDepth 20000 in
theorem c2_X12_give (d : Nat) {b : Nat} {σ : MS} {k : Int} {w : Int} (hR : RG σ) (h_k : -2147483648 ≤ k ∧ k ≤ 2147483647) (h_w : -2147483648 ≤ w ∧ w ≤ 2147483647) : Tm (d + 1) m_X12_give 0 b σ [(0, .ref b), (1, .int (iI k)), (2, .int (iI w))] [] (fun ro σ2 => ro = none ∧ (Fr [39, 40] [] [] σ σ2) ∧ (RG σ2) ∧ (σ2.1 39 = k ∧ σ2.1 40 = w)) := by
  refine tm_aload_n dX12_give_0 rfl 0 rfl ?_
  refine tm_iload_n dX12_give_1 rfl 1 rfl ?_
  refine tm_putS (k := 39) (v := k) lay_12 dX12_give_2 (by decide) fl12_285 rfl (tyX12_ok 39 (by decide)) rfl rfl rfl ?_
  refine tm_aload_n dX12_give_5 rfl 0 rfl ?_
  refine tm_iload_n dX12_give_6 rfl 2 rfl ?_
  refine tm_putS (k := 40) (v := w) lay_12 dX12_give_7 (by decide) fl12_288 rfl (tyX12_ok 40 (by decide)) rfl rfl rfl ?_
  exact tm_vret rfl dX12_give_10 (⟨rfl, ((Fr.rfl.S (by decide)).S (by decide)), ((hR.S (by omega)).S (by omega)), rs_o (by decide) rs_eq, rs_eq⟩)
theorem fl12_278 : Cond.fieldLink RX12 278 (TX12 34).1 (TX12 34).2.1 (TX12 34).2.2.1 ∈ pWW := pw7 (List.mem_of_getElem? (i := 41) rfl) rfl
theorem ml12_271 : Cond.methodLink RX12 271 yX12_isKept ∈ pWW := pw8 (List.mem_of_getElem? (i := 181) rfl) rfl
theorem dX12_put_0 : decode cX12_put 0 = .ok (.aload_n 0, 1) := by decide +kernel
theorem dX12_put_1 : decode cX12_put 1 = .ok (.getfield 278, 3) := by decide +kernel
theorem dX12_put_4 : decode cX12_put 4 = .ok (.istore 4, 2) := by decide +kernel
theorem dX12_put_6 : decode cX12_put 6 = .ok (.aload_n 0, 1) := by decide +kernel
theorem dX12_put_7 : decode cX12_put 7 = .ok (.dup, 1) := by decide +kernel
theorem dX12_put_8 : decode cX12_put 8 = .ok (.getfield 278, 3) := by decide +kernel
theorem dX12_put_11 : decode cX12_put 11 = .ok (.iconst 1, 1) := by decide +kernel
theorem dX12_put_12 : decode cX12_put 12 = .ok (.iadd, 1) := by decide +kernel
theorem dX12_put_13 : decode cX12_put 13 = .ok (.putfield 278, 3) := by decide +kernel
theorem dX12_put_16 : decode cX12_put 16 = .ok (.aload_n 0, 1) := by decide +kernel
theorem dX12_put_17 : decode cX12_put 17 = .ok (.getfield 255, 3) := by decide +kernel
theorem dX12_put_20 : decode cX12_put 20 = .ok (.iconst 3, 1) := by decide +kernel
theorem dX12_put_21 : decode cX12_put 21 = .ok (.if_icmp .ne 31, 3) := by decide +kernel
theorem dX12_put_52 : decode cX12_put 52 = .ok (.sipush 2640, 3) := by decide +kernel
theorem dX12_put_55 : decode cX12_put 55 = .ok (.istore 5, 2) := by decide +kernel
theorem dX12_put_57 : decode cX12_put 57 = .ok (.aload_n 0, 1) := by decide +kernel
theorem dX12_put_58 : decode cX12_put 58 = .ok (.iload 5, 2) := by decide +kernel
theorem dX12_put_60 : decode cX12_put 60 = .ok (.iload_n 1, 1) := by decide +kernel
theorem dX12_put_61 : decode cX12_put 61 = .ok (.iload_n 2, 1) := by decide +kernel
theorem dX12_put_62 : decode cX12_put 62 = .ok (.iload_n 3, 1) := by decide +kernel
theorem dX12_put_63 : decode cX12_put 63 = .ok (.invokevirtual 281, 3) := by decide +kernel
theorem dX12_put_66 : decode cX12_put 66 = .ok (.iload 5, 2) := by decide +kernel
theorem dX12_put_68 : decode cX12_put 68 = .ok (.ireturn, 1) := by decide +kernel
theorem dX12_put_24 : decode cX12_put 24 = .ok (.iload 4, 2) := by decide +kernel
theorem dX12_put_26 : decode cX12_put 26 = .ok (.sipush 220, 3) := by decide +kernel
theorem dX12_put_29 : decode cX12_put 29 = .ok (.if_icmp .ge 23, 3) := by decide +kernel
theorem dX12_put_32 : decode cX12_put 32 = .ok (.aload_n 0, 1) := by decide +kernel
theorem dX12_put_33 : decode cX12_put 33 = .ok (.invokevirtual 271, 3) := by decide +kernel
theorem dX12_put_36 : decode cX12_put 36 = .ok (.ifCond .eq 16, 3) := by decide +kernel
theorem dX12_put_39 : decode cX12_put 39 = .ok (.aload_n 0, 1) := by decide +kernel
theorem dX12_put_40 : decode cX12_put 40 = .ok (.aload_n 0, 1) := by decide +kernel
theorem dX12_put_41 : decode cX12_put 41 = .ok (.getfield 268, 3) := by decide +kernel
theorem dX12_put_44 : decode cX12_put 44 = .ok (.iload 4, 2) := by decide +kernel
theorem dX12_put_46 : decode cX12_put 46 = .ok (.invokevirtual 203, 3) := by decide +kernel
theorem dX12_put_49 : decode cX12_put 49 = .ok (.goto 6, 3) := by decide +kernel
set_option maxHeartbeats 4000000 in
set_option maxRecDepth 20000 in
theorem c_X12_put (d : Nat) {b : Nat} {σ : MS} {k : Int} {e : Int} {o : Int} (hR : RG σ) (hph : (0 ≤ σ.1 30 ∧ σ.1 30 ≤ 2000) ∧ (0 ≤ σ.1 34 ∧ σ.1 34 ≤ 10000)) (h_k : -2147483648 ≤ k ∧ k ≤ 2147483647) (h_e : -2147483648 ≤ e ∧ e ≤ 2147483647) (h_o : -2147483648 ≤ o ∧ o ≤ 2147483647) : Tm (d + 2) m_X12_put 0 b σ [(0, .ref b), (1, .int (iI k)), (2, .int (iI e)), (3, .int (iI o))] [] (fun ro σ2 => ∃ v : Int, ro = some (.int (iI v)) ∧ (Fr [34] [3, 4, 5, 6, 7, 8] [] σ σ2) ∧ (RG σ2) ∧ (v = PXx σ) ∧ (σ2.1 34 = σ.1 34 + 1) ∧ (ITz σ2 v k e o) ∧ (OFF v σ σ2) ∧ (0 ≤ v ∧ v ≤ 2640)) := by
  refine tm_aload_n dX12_put_0 rfl 0 rfl ?_
  refine tm_getS (k := 34) (t := σ.1 34) dX12_put_1 (by decide) fl12_278 rfl (rfl) ?_
  have g1 := RG.s hR 34
  refine tm_istore (L' := [(4, .int (iI (σ.1 34))), (0, .ref b), (1, .int (iI k)), (2, .int (iI e)), (3, .int (iI o))]) dX12_put_4 (by decide) rfl ?_
  refine tm_aload_n dX12_put_6 rfl 1 rfl ?_
  refine tm_dup dX12_put_7 rfl ?_
  refine tm_getS (k := 34) (t := σ.1 34) dX12_put_8 (by decide) fl12_278 rfl (rfl) ?_
  have g2 := RG.s hR 34
  refine tm_iconst dX12_put_11 ?_
  refine tm_iadd dX12_put_12 ?_
  refine tm_putS (k := 34) (v := (σ.1 34) + 1) lay_12 dX12_put_13 (by decide) fl12_278 rfl (tyX12_ok 34 (by decide)) rfl rfl rfl ?_
  refine tm_aload_n dX12_put_16 rfl 1 rfl ?_
  refine tm_getS (k := 25) (t := σ.1 25) dX12_put_17 (by decide) fl12_255 rfl (rs_o (by decide) (rfl)) ?_
  have g3 := RG.s hR 25
  refine tm_iconst dX12_put_20 ?_
  refine tm_icmp_ne (tgt := 52) dX12_put_21 (by decide) ⟨by omega, by omega⟩ ⟨by decide, by decide⟩ (fun h4 => ?_) (fun h4 => ?_)
  · refine tm_sipush dX12_put_52 (by decide) ?_
    refine tm_istore (L' := [(5, .int (iI 2640)), (4, .int (iI (σ.1 34))), (0, .ref b), (1, .int (iI k)), (2, .int (iI e)), (3, .int (iI o))]) dX12_put_55 (by decide) rfl ?_
    refine tm_aload_n dX12_put_57 rfl 2 rfl ?_
    refine tm_iload dX12_put_58 0 rfl ?_
    refine tm_iload_n dX12_put_60 rfl 3 rfl ?_
    refine tm_iload_n dX12_put_61 rfl 4 rfl ?_
    refine tm_iload_n dX12_put_62 rfl 5 rfl ?_
    refine tm_callV (M := m_X12_put) (pc := 63) (ix := 281) (M' := m_X12_setItem) (As := [.int (iI 2640), .int (iI k), .int (iI e), .int (iI o)]) (rest := []) dX12_put_63 ok_X12_setItem im_X12_setItem se_X12_setItem ml12_281 np_X12_setItem rfl rfl (Nat.le_of_ble_eq_true rfl) (Nat.le_of_ble_eq_true rfl) rfl (c_X12_setItem (d) (σ := (sS 34 ((σ.1 34) + 1) σ)) (x := 2640) (k := k) (e := e) (o := o) (by omega)) (fun r5 σ6 hp => ?_)
    obtain ⟨rfl, f8⟩ := hp
    subst f8
    show Tm _ _ 66 b (fItem (2640) (k) (e) (o) (sS 34 ((σ.1 34) + 1) σ)) [(5, .int (iI 2640)), (4, .int (iI (σ.1 34))), (0, .ref b), (1, .int (iI k)), (2, .int (iI e)), (3, .int (iI o))] [] _
    refine tm_iload dX12_put_66 0 rfl ?_
    exact tm_iret rfl dX12_put_68 (⟨_, rfl, ((Fr.rfl.S (by decide)).trans (Fr.sub fItem_fr (by decide) (by decide) (by decide))), (((hR.S (by omega))).item (by omega) (by omega) (by omega)), (if_neg (by omega)).symm, rfl, fItem_at, (fItem_off : OFF _ (sS 34 (σ.1 34 + 1) σ) _), by omega⟩)
  · refine tm_iload dX12_put_24 0 rfl ?_
    refine tm_sipush dX12_put_26 (by decide) ?_
    refine tm_icmp_ge (tgt := 52) dX12_put_29 (by decide) ⟨by omega, by omega⟩ ⟨by decide, by decide⟩ (fun h9 => ?_) (fun h9 => ?_)
    · refine tm_sipush dX12_put_52 (by decide) ?_
      refine tm_istore (L' := [(5, .int (iI 2640)), (4, .int (iI (σ.1 34))), (0, .ref b), (1, .int (iI k)), (2, .int (iI e)), (3, .int (iI o))]) dX12_put_55 (by decide) rfl ?_
      refine tm_aload_n dX12_put_57 rfl 2 rfl ?_
      refine tm_iload dX12_put_58 0 rfl ?_
      refine tm_iload_n dX12_put_60 rfl 3 rfl ?_
      refine tm_iload_n dX12_put_61 rfl 4 rfl ?_
      refine tm_iload_n dX12_put_62 rfl 5 rfl ?_
      refine tm_callV (M := m_X12_put) (pc := 63) (ix := 281) (M' := m_X12_setItem) (As := [.int (iI 2640), .int (iI k), .int (iI e), .int (iI o)]) (rest := []) dX12_put_63 ok_X12_setItem im_X12_setItem se_X12_setItem ml12_281 np_X12_setItem rfl rfl (Nat.le_of_ble_eq_true rfl) (Nat.le_of_ble_eq_true rfl) rfl (c_X12_setItem (d) (σ := (sS 34 ((σ.1 34) + 1) σ)) (x := 2640) (k := k) (e := e) (o := o) (by omega)) (fun r10 σ11 hp => ?_)
      obtain ⟨rfl, f13⟩ := hp
      subst f13
      show Tm _ _ 66 b (fItem (2640) (k) (e) (o) (sS 34 ((σ.1 34) + 1) σ)) [(5, .int (iI 2640)), (4, .int (iI (σ.1 34))), (0, .ref b), (1, .int (iI k)), (2, .int (iI e)), (3, .int (iI o))] [] _
      refine tm_iload dX12_put_66 0 rfl ?_
      exact tm_iret rfl dX12_put_68 (⟨_, rfl, ((Fr.rfl.S (by decide)).trans (Fr.sub fItem_fr (by decide) (by decide) (by decide))), (((hR.S (by omega))).item (by omega) (by omega) (by omega)), (if_neg (by omega)).symm, rfl, fItem_at, (fItem_off : OFF _ (sS 34 (σ.1 34 + 1) σ) _), by omega⟩)
    · refine tm_aload_n dX12_put_32 rfl 1 rfl ?_
      refine tm_callV (M := m_X12_put) (pc := 33) (ix := 271) (M' := m_X12_isKept) (As := []) (rest := []) dX12_put_33 ok_X12_isKept im_X12_isKept se_X12_isKept ml12_271 np_X12_isKept rfl rfl (Nat.le_of_ble_eq_true rfl) (Nat.le_of_ble_eq_true rfl) rfl (c_X12_isKept (d) (σ := (sS 34 ((σ.1 34) + 1) σ))  (hR.S (by omega))) (fun r14 σ15 hp => ?_)
      obtain ⟨v16, rfl, rfl, f17, f18⟩ := hp
      show Tm _ _ 36 b (sS 34 ((σ.1 34) + 1) σ) [(4, .int (iI (σ.1 34))), (0, .ref b), (1, .int (iI k)), (2, .int (iI e)), (3, .int (iI o))] [.int (iI v16)] _
      have e30 : (sS 34 ((σ.1 34) + 1) σ).1 30 = σ.1 30 := rfl
      refine tm_if_eq (tgt := 52) dX12_put_36 (by decide) ⟨by omega, by omega⟩ (fun h19 => ?_) (fun h19 => ?_)
      · refine tm_sipush dX12_put_52 (by decide) ?_
        refine tm_istore (L' := [(5, .int (iI 2640)), (4, .int (iI (σ.1 34))), (0, .ref b), (1, .int (iI k)), (2, .int (iI e)), (3, .int (iI o))]) dX12_put_55 (by decide) rfl ?_
        refine tm_aload_n dX12_put_57 rfl 2 rfl ?_
        refine tm_iload dX12_put_58 0 rfl ?_
        refine tm_iload_n dX12_put_60 rfl 3 rfl ?_
        refine tm_iload_n dX12_put_61 rfl 4 rfl ?_
        refine tm_iload_n dX12_put_62 rfl 5 rfl ?_
        refine tm_callV (M := m_X12_put) (pc := 63) (ix := 281) (M' := m_X12_setItem) (As := [.int (iI 2640), .int (iI k), .int (iI e), .int (iI o)]) (rest := []) dX12_put_63 ok_X12_setItem im_X12_setItem se_X12_setItem ml12_281 np_X12_setItem rfl rfl (Nat.le_of_ble_eq_true rfl) (Nat.le_of_ble_eq_true rfl) rfl (c_X12_setItem (d) (σ := (sS 34 ((σ.1 34) + 1) σ)) (x := 2640) (k := k) (e := e) (o := o) (by omega)) (fun r20 σ21 hp => ?_)
        obtain ⟨rfl, f23⟩ := hp
        subst f23
        show Tm _ _ 66 b (fItem (2640) (k) (e) (o) (sS 34 ((σ.1 34) + 1) σ)) [(5, .int (iI 2640)), (4, .int (iI (σ.1 34))), (0, .ref b), (1, .int (iI k)), (2, .int (iI e)), (3, .int (iI o))] [] _
        refine tm_iload dX12_put_66 0 rfl ?_
        exact tm_iret rfl dX12_put_68 (⟨_, rfl, ((Fr.rfl.S (by decide)).trans (Fr.sub fItem_fr (by decide) (by decide) (by decide))), (((hR.S (by omega))).item (by omega) (by omega) (by omega)), (if_neg (by omega)).symm, rfl, fItem_at, (fItem_off : OFF _ (sS 34 (σ.1 34 + 1) σ) _), by omega⟩)
      · refine tm_aload_n dX12_put_39 rfl 1 rfl ?_
        refine tm_aload_n dX12_put_40 rfl 1 rfl ?_
        refine tm_getS (k := 30) (t := σ.1 30) dX12_put_41 (by decide) fl12_268 rfl (rs_o (by decide) (rfl)) ?_
        have g24 := RG.s hR 30
        refine tm_iload dX12_put_44 0 rfl ?_
        refine tm_callV (M := m_X12_put) (pc := 46) (ix := 203) (M' := m_X12_at) (As := [.int (iI (σ.1 30)), .int (iI (σ.1 34))]) (rest := []) dX12_put_46 ok_X12_at im_X12_at se_X12_at ml12_203 np_X12_at rfl rfl (Nat.le_of_ble_eq_true rfl) (Nat.le_of_ble_eq_true rfl) rfl (c_X12_at (d) (σ := (sS 34 ((σ.1 34) + 1) σ)) (x := σ.1 30) (k := σ.1 34) ) (fun r25 σ26 hp => ?_)
        obtain ⟨v27, rfl, rfl, f28⟩ := hp
        subst f28
        show Tm _ _ 49 b (sS 34 ((σ.1 34) + 1) σ) [(4, .int (iI (σ.1 34))), (0, .ref b), (1, .int (iI k)), (2, .int (iI e)), (3, .int (iI o))] [.int (iI (220 * (σ.1 30) + (σ.1 34)))] _
        refine tm_goto (tgt := 55) dX12_put_49 (by decide) ?_
        refine tm_istore (L' := [(5, .int (iI (220 * (σ.1 30) + (σ.1 34)))), (4, .int (iI (σ.1 34))), (0, .ref b), (1, .int (iI k)), (2, .int (iI e)), (3, .int (iI o))]) dX12_put_55 (by decide) rfl ?_
        refine tm_aload_n dX12_put_57 rfl 2 rfl ?_
        refine tm_iload dX12_put_58 0 rfl ?_
        refine tm_iload_n dX12_put_60 rfl 3 rfl ?_
        refine tm_iload_n dX12_put_61 rfl 4 rfl ?_
        refine tm_iload_n dX12_put_62 rfl 5 rfl ?_
        refine tm_callV (M := m_X12_put) (pc := 63) (ix := 281) (M' := m_X12_setItem) (As := [.int (iI (220 * (σ.1 30) + (σ.1 34))), .int (iI k), .int (iI e), .int (iI o)]) (rest := []) dX12_put_63 ok_X12_setItem im_X12_setItem se_X12_setItem ml12_281 np_X12_setItem rfl rfl (Nat.le_of_ble_eq_true rfl) (Nat.le_of_ble_eq_true rfl) rfl (c_X12_setItem (d) (σ := (sS 34 ((σ.1 34) + 1) σ)) (x := 220 * (σ.1 30) + (σ.1 34)) (k := k) (e := e) (o := o) (by omega)) (fun r29 σ30 hp => ?_)
        obtain ⟨rfl, f32⟩ := hp
        subst f32
        show Tm _ _ 66 b (fItem (220 * (σ.1 30) + (σ.1 34)) (k) (e) (o) (sS 34 ((σ.1 34) + 1) σ)) [(5, .int (iI (220 * (σ.1 30) + (σ.1 34)))), (4, .int (iI (σ.1 34))), (0, .ref b), (1, .int (iI k)), (2, .int (iI e)), (3, .int (iI o))] [] _
        refine tm_iload dX12_put_66 0 rfl ?_
        exact tm_iret rfl dX12_put_68 (⟨_, rfl, ((Fr.rfl.S (by decide)).trans (Fr.sub fItem_fr (by decide) (by decide) (by decide))), (((hR.S (by omega))).item (by omega) (by omega) (by omega)), (if_pos (by omega)).symm, rfl, fItem_at, (fItem_off : OFF _ (sS 34 (σ.1 34 + 1) σ) _), by omega⟩)
theorem fl12_291 : Cond.fieldLink RX12 291 (TX12 32).1 (TX12 32).2.1 (TX12 32).2.2.1 ∈ pWW := pw7 (List.mem_of_getElem? (i := 39) rfl) rfl
theorem ml12_294 : Cond.methodLink RX12 294 yX12_put ∈ pWW := pw8 (List.mem_of_getElem? (i := 205) rfl) rfl
theorem ml12_301 : Cond.methodLink RX12 301 yX12_give ∈ pWW := pw8 (List.mem_of_getElem? (i := 233) rfl) rfl
theorem dX12_joins_0 : decode cX12_joins 0 = .ok (.aload_n 0, 1) := by decide +kernel
theorem dX12_joins_1 : decode cX12_joins 1 = .ok (.iload_n 1, 1) := by decide +kernel
theorem dX12_joins_2 : decode cX12_joins 2 = .ok (.aload_n 0, 1) := by decide +kernel
theorem dX12_joins_3 : decode cX12_joins 3 = .ok (.getfield 291, 3) := by decide +kernel
theorem dX12_joins_6 : decode cX12_joins 6 = .ok (.iconst 0, 1) := by decide +kernel
theorem dX12_joins_7 : decode cX12_joins 7 = .ok (.invokevirtual 294, 3) := by decide +kernel
theorem dX12_joins_10 : decode cX12_joins 10 = .ok (.istore 6, 2) := by decide +kernel
theorem dX12_joins_12 : decode cX12_joins 12 = .ok (.aload_n 0, 1) := by decide +kernel
theorem dX12_joins_13 : decode cX12_joins 13 = .ok (.iload 6, 2) := by decide +kernel
theorem dX12_joins_15 : decode cX12_joins 15 = .ok (.iconst 0, 1) := by decide +kernel
theorem dX12_joins_16 : decode cX12_joins 16 = .ok (.iload_n 2, 1) := by decide +kernel
theorem dX12_joins_17 : decode cX12_joins 17 = .ok (.iload_n 3, 1) := by decide +kernel
theorem dX12_joins_18 : decode cX12_joins 18 = .ok (.invokevirtual 298, 3) := by decide +kernel
theorem dX12_joins_21 : decode cX12_joins 21 = .ok (.aload_n 0, 1) := by decide +kernel
theorem dX12_joins_22 : decode cX12_joins 22 = .ok (.iload 6, 2) := by decide +kernel
theorem dX12_joins_24 : decode cX12_joins 24 = .ok (.iconst 1, 1) := by decide +kernel
theorem dX12_joins_25 : decode cX12_joins 25 = .ok (.iload 4, 2) := by decide +kernel
theorem dX12_joins_27 : decode cX12_joins 27 = .ok (.iload 5, 2) := by decide +kernel
theorem dX12_joins_29 : decode cX12_joins 29 = .ok (.invokevirtual 298, 3) := by decide +kernel
theorem dX12_joins_32 : decode cX12_joins 32 = .ok (.aload_n 0, 1) := by decide +kernel
theorem dX12_joins_33 : decode cX12_joins 33 = .ok (.iconst 2, 1) := by decide +kernel
theorem dX12_joins_34 : decode cX12_joins 34 = .ok (.aload_n 0, 1) := by decide +kernel
theorem dX12_joins_35 : decode cX12_joins 35 = .ok (.getfield 291, 3) := by decide +kernel
theorem dX12_joins_38 : decode cX12_joins 38 = .ok (.invokevirtual 301, 3) := by decide +kernel
theorem dX12_joins_41 : decode cX12_joins 41 = .ok (.aload_n 0, 1) := by decide +kernel
theorem dX12_joins_42 : decode cX12_joins 42 = .ok (.dup, 1) := by decide +kernel
theorem dX12_joins_43 : decode cX12_joins 43 = .ok (.getfield 291, 3) := by decide +kernel
theorem dX12_joins_46 : decode cX12_joins 46 = .ok (.iconst 1, 1) := by decide +kernel
theorem dX12_joins_47 : decode cX12_joins 47 = .ok (.iadd, 1) := by decide +kernel
theorem dX12_joins_48 : decode cX12_joins 48 = .ok (.putfield 291, 3) := by decide +kernel
theorem dX12_joins_51 : decode cX12_joins 51 = .ok (.return_, 1) := by decide +kernel
set_option maxHeartbeats 4000000 in
set_option maxRecDepth 20000 in
theorem c_X12_joins (d : Nat) {b : Nat} {σ : MS} {k : Int} {ak : Int} {a : Int} {bk : Int} {c : Int} (hR : RG σ) (hph : (0 ≤ σ.1 30 ∧ σ.1 30 ≤ 2000) ∧ (0 ≤ σ.1 34 ∧ σ.1 34 ≤ 10000)) (hk5 : 1 ≤ k ∧ k ≤ 5) (hak : (0 ≤ ak ∧ ak ≤ 2) ∧ (ak = 2 → 0 ≤ a ∧ a < 12 + σ.1 34)) (hbk : (0 ≤ bk ∧ bk ≤ 2) ∧ (bk = 2 → 0 ≤ c ∧ c < 12 + σ.1 34)) (h32 : 0 ≤ σ.1 32 ∧ σ.1 32 ≤ 12 + σ.1 34) (h_a : -2147483648 ≤ a ∧ a ≤ 2147483647) (h_c : -2147483648 ≤ c ∧ c ≤ 2147483647) : Tm (d + 3) m_X12_joins 0 b σ [(0, .ref b), (1, .int (iI k)), (2, .int (iI ak)), (3, .int (iI a)), (4, .int (iI bk)), (5, .int (iI c))] [] (fun ro σ2 => ro = none ∧ (Fr [32, 34, 39, 40] [3, 4, 5, 6, 7, 8] [] σ σ2) ∧ (RG σ2) ∧ (σ2.1 34 = σ.1 34 + 1 ∧ σ2.1 32 = σ.1 32 + 1 ∧ σ2.1 39 = 2 ∧ σ2.1 40 = σ.1 32) ∧ (OFF (PXx σ) σ σ2) ∧ (ACI σ2 (13 + σ.1 34) (PXx σ))) := by
  refine tm_aload_n dX12_joins_0 rfl 0 rfl ?_
  refine tm_iload_n dX12_joins_1 rfl 1 rfl ?_
  refine tm_aload_n dX12_joins_2 rfl 0 rfl ?_
  refine tm_getS (k := 32) (t := σ.1 32) dX12_joins_3 (by decide) fl12_291 rfl (rfl) ?_
  have g1 := RG.s hR 32
  refine tm_iconst dX12_joins_6 ?_
  refine tm_callV (M := m_X12_joins) (pc := 7) (ix := 294) (M' := m_X12_put) (As := [.int (iI k), .int (iI (σ.1 32)), .int (iI 0)]) (rest := []) dX12_joins_7 ok_X12_put im_X12_put se_X12_put ml12_294 np_X12_put rfl rfl (Nat.le_of_ble_eq_true rfl) (Nat.le_of_ble_eq_true rfl) rfl (c_X12_put (d) (σ := σ) (k := k) (e := σ.1 32) (o := 0) hR hph (by omega) (by omega) (by omega)) (fun r2 σ3 hp => ?_)
  obtain ⟨v4, rfl, f5, f6, f7, f8, f9, f10, f11⟩ := hp
  show Tm _ _ 10 b σ3 [(0, .ref b), (1, .int (iI k)), (2, .int (iI ak)), (3, .int (iI a)), (4, .int (iI bk)), (5, .int (iI c))] [.int (iI v4)] _
  have jv := f7
  have j34 := f8
  have ji := f9
  have jo := f10
  have jr := f11
  refine tm_istore (L' := [(6, .int (iI v4)), (0, .ref b), (1, .int (iI k)), (2, .int (iI ak)), (3, .int (iI a)), (4, .int (iI bk)), (5, .int (iI c))]) dX12_joins_10 (by decide) rfl ?_
  refine tm_aload_n dX12_joins_12 rfl 1 rfl ?_
  refine tm_iload dX12_joins_13 0 rfl ?_
  refine tm_iconst dX12_joins_15 ?_
  refine tm_iload_n dX12_joins_16 rfl 3 rfl ?_
  refine tm_iload_n dX12_joins_17 rfl 4 rfl ?_
  refine tm_callV (M := m_X12_joins) (pc := 18) (ix := 298) (M' := m_X12_setArg) (As := [.int (iI v4), .int (iI 0), .int (iI ak), .int (iI a)]) (rest := []) dX12_joins_18 ok_X12_setArg im_X12_setArg se_X12_setArg ml12_298 np_X12_setArg rfl rfl (Nat.le_of_ble_eq_true rfl) (Nat.le_of_ble_eq_true rfl) rfl (c_X12_setArg (d + 1) (σ := σ3) (x := v4) (i := 0) (k := ak) (w := a) (by omega)) (fun r12 σ13 hp => ?_)
  obtain ⟨rfl, f15⟩ := hp
  subst f15
  show Tm _ _ 21 b (fArg (v4) (0) (ak) (a) σ3) [(6, .int (iI v4)), (0, .ref b), (1, .int (iI k)), (2, .int (iI ak)), (3, .int (iI a)), (4, .int (iI bk)), (5, .int (iI c))] [] _
  refine tm_aload_n dX12_joins_21 rfl 1 rfl ?_
  refine tm_iload dX12_joins_22 0 rfl ?_
  refine tm_iconst dX12_joins_24 ?_
  refine tm_iload dX12_joins_25 5 rfl ?_
  refine tm_iload dX12_joins_27 6 rfl ?_
  refine tm_callV (M := m_X12_joins) (pc := 29) (ix := 298) (M' := m_X12_setArg) (As := [.int (iI v4), .int (iI 1), .int (iI bk), .int (iI c)]) (rest := []) dX12_joins_29 ok_X12_setArg im_X12_setArg se_X12_setArg ml12_298 np_X12_setArg rfl rfl (Nat.le_of_ble_eq_true rfl) (Nat.le_of_ble_eq_true rfl) rfl (c_X12_setArg (d + 1) (σ := (fArg (v4) (0) (ak) (a) σ3)) (x := v4) (i := 1) (k := bk) (w := c) (by omega)) (fun r16 σ17 hp => ?_)
  obtain ⟨rfl, f19⟩ := hp
  subst f19
  show Tm _ _ 32 b (fArg (v4) (1) (bk) (c) (fArg (v4) (0) (ak) (a) σ3)) [(6, .int (iI v4)), (0, .ref b), (1, .int (iI k)), (2, .int (iI ak)), (3, .int (iI a)), (4, .int (iI bk)), (5, .int (iI c))] [] _
  refine tm_aload_n dX12_joins_32 rfl 1 rfl ?_
  refine tm_iconst dX12_joins_33 ?_
  refine tm_aload_n dX12_joins_34 rfl 1 rfl ?_
  refine tm_getS (k := 32) (t := σ.1 32) dX12_joins_35 (by decide) fl12_291 rfl (rs_F fArg_fr (by decide) (rs_F fArg_fr (by decide) (rs_F f5 (by decide) (rfl)))) ?_
  have g20 := RG.s hR 32
  refine tm_callV (M := m_X12_joins) (pc := 38) (ix := 301) (M' := m_X12_give) (As := [.int (iI 2), .int (iI (σ.1 32))]) (rest := []) dX12_joins_38 ok_X12_give im_X12_give se_X12_give ml12_301 np_X12_give rfl rfl (Nat.le_of_ble_eq_true rfl) (Nat.le_of_ble_eq_true rfl) rfl (c2_X12_give (d + 1) (σ := (fArg (v4) (1) (bk) (c) (fArg (v4) (0) (ak) (a) σ3))) (k := 2) (w := σ.1 32) ((((f6).arg (by omega) (by omega))).arg (by omega) (by omega)) (by omega) (by omega)) (fun r21 σ22 hp => ?_)
  obtain ⟨rfl, f24, f25, f26⟩ := hp
  show Tm _ _ 41 b σ22 [(6, .int (iI v4)), (0, .ref b), (1, .int (iI k)), (2, .int (iI ak)), (3, .int (iI a)), (4, .int (iI bk)), (5, .int (iI c))] [] _
  have jg := f26
  refine tm_aload_n dX12_joins_41 rfl 1 rfl ?_
  refine tm_dup dX12_joins_42 rfl ?_
  refine tm_getS (k := 32) (t := σ.1 32) dX12_joins_43 (by decide) fl12_291 rfl (rs_F f24 (by decide) (rs_F fArg_fr (by decide) (rs_F fArg_fr (by decide) (rs_F f5 (by decide) (rfl))))) ?_
  have g27 := RG.s hR 32
  refine tm_iconst dX12_joins_46 ?_
  refine tm_iadd dX12_joins_47 ?_
  refine tm_putS (k := 32) (v := (σ.1 32) + 1) lay_12 dX12_joins_48 (by decide) fl12_291 rfl (tyX12_ok 32 (by decide)) rfl rfl rfl ?_
  exact tm_vret rfl dX12_joins_51 (⟨rfl, (((((Fr.rfl.trans (Fr.sub f5 (by decide) (by decide) (by decide))).trans (Fr.sub fArg_fr (by decide) (by decide) (by decide))).trans (Fr.sub fArg_fr (by decide) (by decide) (by decide))).trans (Fr.sub f24 (by decide) (by decide) (by decide))).S (by decide)), (f25.S (by omega)), by rw [show (sS 32 ((σ.1 32) + 1) σ22).1 34 = σ3.1 34 from rs_o (by decide) (rs_F f24 (by decide) (rs_F fArg_fr (by decide) (rs_F fArg_fr (by decide) (rfl)))), show (sS 32 ((σ.1 32) + 1) σ22).1 32 = (σ.1 32) + 1 from rs_eq, show (sS 32 ((σ.1 32) + 1) σ22).1 39 = σ22.1 39 from rs_o (by decide) (rfl), show (sS 32 ((σ.1 32) + 1) σ22).1 40 = σ22.1 40 from rs_o (by decide) (rfl)]; omega, by rw [← jv]; exact ((jo.trans (OFF.arg (by decide) (by decide))).trans (OFF.arg (by decide) (by decide))).fr (show Fr [32, 39, 40] [] [] (fArg (v4) (1) (bk) (c) (fArg (v4) (0) (ak) (a) σ3)) (sS 32 ((σ.1 32) + 1) σ22) from ((Fr.rfl.trans (Fr.sub f24 (by decide) (by decide) (by decide))).S (by decide))) (by decide), by rw [← jv]; exact (ACI.mk (B := 13 + σ.1 34) ji (by omega) (by omega) (by omega) (by omega)).mv (IEQ.of (show Fr [32, 39, 40] [] [] (fArg (v4) (1) (bk) (c) (fArg (v4) (0) (ak) (a) σ3)) (sS 32 ((σ.1 32) + 1) σ22) from ((Fr.rfl.trans (Fr.sub f24 (by decide) (by decide) (by decide))).S (by decide))) (by decide)) (Int.le_refl _)⟩)
