theorem PBO.rfl {σ : MS} (h : ORH σ) : PBO σ σ := ⟨fun x _ _ => ⟨_root_.rfl, _root_.rfl, _root_.rfl, _root_.rfl, fun _ _ _ => ⟨_root_.rfl, _root_.rfl⟩⟩, fun _ => ⟨_root_.rfl, _root_.rfl, _root_.rfl, _root_.rfl, _root_.rfl, _root_.rfl, _root_.rfl⟩, h.2.2.2.2.2.1, FLT.eq _root_.rfl, _root_.rfl, fun _ _ => _root_.rfl, h.2.2.2.2.2.2.1.1⟩

theorem dX12_oneRoutine_0 : decode cX12_oneRoutine 0 = .ok (.aload_n 0, 1) := by decide +kernel
theorem dX12_oneRoutine_1 : decode cX12_oneRoutine 1 = .ok (.getfield 216, 3) := by decide +kernel
theorem dX12_oneRoutine_4 : decode cX12_oneRoutine 4 = .ok (.istore_n 1, 1) := by decide +kernel
theorem dX12_oneRoutine_5 : decode cX12_oneRoutine 5 = .ok (.aload_n 0, 1) := by decide +kernel
theorem dX12_oneRoutine_6 : decode cX12_oneRoutine 6 = .ok (.invokevirtual 320, 3) := by decide +kernel
theorem dX12_oneRoutine_9 : decode cX12_oneRoutine 9 = .ok (.ifCond .ne 8, 3) := by decide +kernel
theorem dX12_oneRoutine_17 : decode cX12_oneRoutine 17 = .ok (.aload_n 0, 1) := by decide +kernel
theorem dX12_oneRoutine_18 : decode cX12_oneRoutine 18 = .ok (.getfield 255, 3) := by decide +kernel
theorem dX12_oneRoutine_21 : decode cX12_oneRoutine 21 = .ok (.iconst 1, 1) := by decide +kernel
theorem dX12_oneRoutine_22 : decode cX12_oneRoutine 22 = .ok (.if_icmp .ne 59, 3) := by decide +kernel
theorem dX12_oneRoutine_25 : decode cX12_oneRoutine 25 = .ok (.aload_n 0, 1) := by decide +kernel
theorem dX12_oneRoutine_26 : decode cX12_oneRoutine 26 = .ok (.getfield 268, 3) := by decide +kernel
theorem dX12_oneRoutine_29 : decode cX12_oneRoutine 29 = .ok (.bipush 6, 2) := by decide +kernel
theorem dX12_oneRoutine_31 : decode cX12_oneRoutine 31 = .ok (.if_icmp .ne 9, 3) := by decide +kernel
theorem dX12_oneRoutine_40 : decode cX12_oneRoutine 40 = .ok (.aload_n 0, 1) := by decide +kernel
theorem dX12_oneRoutine_41 : decode cX12_oneRoutine 41 = .ok (.aload_n 0, 1) := by decide +kernel
theorem dX12_oneRoutine_42 : decode cX12_oneRoutine 42 = .ok (.getfield 219, 3) := by decide +kernel
theorem dX12_oneRoutine_45 : decode cX12_oneRoutine 45 = .ok (.invokevirtual 363, 3) := by decide +kernel
theorem dX12_oneRoutine_48 : decode cX12_oneRoutine 48 = .ok (.iconst (-1), 1) := by decide +kernel
theorem dX12_oneRoutine_49 : decode cX12_oneRoutine 49 = .ok (.if_icmp .eq 9, 3) := by decide +kernel
theorem dX12_oneRoutine_58 : decode cX12_oneRoutine 58 = .ok (.aload_n 0, 1) := by decide +kernel
theorem dX12_oneRoutine_59 : decode cX12_oneRoutine 59 = .ok (.getfield 82, 3) := by decide +kernel
theorem dX12_oneRoutine_62 : decode cX12_oneRoutine 62 = .ok (.aload_n 0, 1) := by decide +kernel
theorem dX12_oneRoutine_63 : decode cX12_oneRoutine 63 = .ok (.getfield 376, 3) := by decide +kernel
theorem dX12_oneRoutine_66 : decode cX12_oneRoutine 66 = .ok (.aload_n 0, 1) := by decide +kernel
theorem dX12_oneRoutine_67 : decode cX12_oneRoutine 67 = .ok (.getfield 219, 3) := by decide +kernel
theorem dX12_oneRoutine_70 : decode cX12_oneRoutine 70 = .ok (.lastore, 1) := by decide +kernel
theorem dX12_oneRoutine_71 : decode cX12_oneRoutine 71 = .ok (.aload_n 0, 1) := by decide +kernel
theorem dX12_oneRoutine_72 : decode cX12_oneRoutine 72 = .ok (.dup, 1) := by decide +kernel
theorem dX12_oneRoutine_73 : decode cX12_oneRoutine 73 = .ok (.getfield 376, 3) := by decide +kernel
theorem dX12_oneRoutine_76 : decode cX12_oneRoutine 76 = .ok (.iconst 1, 1) := by decide +kernel
theorem dX12_oneRoutine_77 : decode cX12_oneRoutine 77 = .ok (.iadd, 1) := by decide +kernel
theorem dX12_oneRoutine_78 : decode cX12_oneRoutine 78 = .ok (.putfield 376, 3) := by decide +kernel
theorem dX12_oneRoutine_52 : decode cX12_oneRoutine 52 = .ok (.aload_n 0, 1) := by decide +kernel
theorem dX12_oneRoutine_53 : decode cX12_oneRoutine 53 = .ok (.iconst 2, 1) := by decide +kernel
theorem dX12_oneRoutine_54 : decode cX12_oneRoutine 54 = .ok (.iload_n 1, 1) := by decide +kernel
theorem dX12_oneRoutine_55 : decode cX12_oneRoutine 55 = .ok (.invokevirtual 274, 3) := by decide +kernel
theorem dX12_oneRoutine_34 : decode cX12_oneRoutine 34 = .ok (.aload_n 0, 1) := by decide +kernel
theorem dX12_oneRoutine_35 : decode cX12_oneRoutine 35 = .ok (.iconst 5, 1) := by decide +kernel
theorem dX12_oneRoutine_36 : decode cX12_oneRoutine 36 = .ok (.iload_n 1, 1) := by decide +kernel
theorem dX12_oneRoutine_37 : decode cX12_oneRoutine 37 = .ok (.invokevirtual 274, 3) := by decide +kernel
theorem dX12_oneRoutine_12 : decode cX12_oneRoutine 12 = .ok (.aload_n 0, 1) := by decide +kernel
theorem dX12_oneRoutine_13 : decode cX12_oneRoutine 13 = .ok (.invokevirtual 261, 3) := by decide +kernel
theorem dX12_oneRoutine_16 : decode cX12_oneRoutine 16 = .ok (.ireturn, 1) := by decide +kernel
set_option maxHeartbeats 4000000 in
set_option maxRecDepth 20000 in
theorem c_X12_oneRoutine (d : Nat) {b : Nat} {σ : MS} (hR : RG σ) (hoh : ORH σ) : Tm (d + 63) m_X12_oneRoutine 0 b σ [(0, .ref b)] [] (fun ro σ2 => ∃ v : Int, ro = some (.int (iI v)) ∧ ((v = 0 ∨ v = 1)) ∧ (Fr [19, 20, 22, 23, 26, 27, 28, 29, 30, 31, 32, 33, 34, 39, 40, 43] [3, 4, 5, 6, 7, 8, 9, 35, 36, 37, 41, 42, 45] [24, 38, 44] σ σ2) ∧ (RG σ2) ∧ (PBO σ σ2) ∧ (Im v 1 (ORQ σ σ2)) ∧ (Im v 0 (∀ x, GOF [30] (sS 34 x σ) (qq 0) σ2))) := by
  have tk0 := hoh.1.1
  refine tm_aload_n dX12_oneRoutine_0 rfl 0 rfl ?_
  refine tm_getS (k := 19) (t := σ.1 19) dX12_oneRoutine_1 (by decide) fl12_216 rfl (rfl) ?_
  have g1 := RG.s hR 19
  refine tm_istore_n (L' := [(1, .int (iI (σ.1 19))), (0, .ref b)]) dX12_oneRoutine_4 rfl (by decide) rfl ?_
  refine tm_aload_n dX12_oneRoutine_5 rfl 1 rfl ?_
  refine tm_callV (M := m_X12_oneRoutine) (pc := 6) (ix := 320) (M' := m_X12_isName) (As := []) (rest := []) dX12_oneRoutine_6 ok_X12_isName im_X12_isName se_X12_isName ml12_320 np_X12_isName rfl rfl (Nat.le_of_ble_eq_true rfl) (Nat.le_of_ble_eq_true rfl) rfl (c2_X12_isName (d + 61) (σ := σ)  hR) (fun r2 σ3 hp => ?_)
  obtain ⟨v4, rfl, rfl, f5, f6, f7⟩ := hp
  show Tm _ _ 9 b σ [(1, .int (iI (σ.1 19))), (0, .ref b)] [.int (iI v4)] _
  have inm := f6
  have nnm_ := f7
  refine tm_if_ne (tgt := 17) dX12_oneRoutine_9 (by decide) ⟨by omega, by omega⟩ (fun h8 => ?_) (fun h8 => ?_)
  · have oh25 := hoh.2.1
    have oh30 := hoh.2.2.1
    have oht := hoh.1.1
    have oh43 := hoh.2.2.2.2.2.2.1
    have nmw := inm (by omega)
    refine tm_aload_n dX12_oneRoutine_17 rfl 1 rfl ?_
    refine tm_getS (k := 25) (t := σ.1 25) dX12_oneRoutine_18 (by decide) fl12_255 rfl (rfl) ?_
    have g9 := RG.s hR 25
    refine tm_iconst dX12_oneRoutine_21 ?_
    refine tm_icmp_ne (tgt := 81) dX12_oneRoutine_22 (by decide) ⟨by omega, by omega⟩ ⟨by decide, by decide⟩ (fun h10 => ?_) (fun h10 => ?_)
    · refine tm_sub [0, 1] rfl (b_one81 (d) (σ := σ) (p := σ.1 19) (ρ := σ) hR hoh ⟨Fr.rfl, FLT.eq rfl, hoh.2.2.2.2.2.1, fun _ => ⟨rfl, rfl, rfl, rfl, rfl, rfl, rfl⟩, fun z => absurd z (by omega), oh43.1⟩ (show Fr [26, 27, 43] [] [44] σ σ from Fr.rfl) nmw (by unfold rnP; rw [ifP_f (by omega)]) rfl (by omega) (fun v τ z1 z2 z3 z4 z5 z6 => ⟨_, rfl, z3, z1, z2, z4, z5, z6⟩) _  rfl)
    · refine tm_aload_n dX12_oneRoutine_25 rfl 1 rfl ?_
      refine tm_getS (k := 30) (t := σ.1 30) dX12_oneRoutine_26 (by decide) fl12_268 rfl (rfl) ?_
      have g11 := RG.s hR 30
      refine tm_bipush dX12_oneRoutine_29 (by decide) ?_
      refine tm_icmp_ne (tgt := 40) dX12_oneRoutine_31 (by decide) ⟨by omega, by omega⟩ ⟨by decide, by decide⟩ (fun h12 => ?_) (fun h12 => ?_)
      · refine tm_aload_n dX12_oneRoutine_40 rfl 1 rfl ?_
        refine tm_aload_n dX12_oneRoutine_41 rfl 1 rfl ?_
        refine tm_getW (t := σ.2.2 24 0) dX12_oneRoutine_42 fl12_219 (rfl) ?_
        refine tm_callV (M := m_X12_oneRoutine) (pc := 45) (ix := 363) (M' := m_X12_routineBy) (As := [.long (σ.2.2 24 0)]) (rest := []) dX12_oneRoutine_45 ok_X12_routineBy im_X12_routineBy se_X12_routineBy ml12_363 np_X12_routineBy rfl rfl (Nat.le_of_ble_eq_true rfl) (Nat.le_of_ble_eq_true rfl) rfl (c2_X12_routineBy (d + 61) (σ := σ) (w := σ.2.2 24 0) hR (by rw [show σ.1 43 = σ.1 43 from rfl]; exact oh43.1)) (fun r13 σ14 hp => ?_)
        obtain ⟨v15, rfl, rfl, f16, f17⟩ := hp
        show Tm _ _ 48 b σ [(1, .int (iI (σ.1 19))), (0, .ref b)] [.int (iI v15)] _
        have k43 : σ.1 43 = σ.1 43 := rfl
        have rbq := f16
        have rbs : RBY σ (σ.2.2 24 0) (v15) := (f17).bt (TBm.of (Fr.rfl : Fr [26, 27] [] [] σ σ) (by decide) (by decide) (by decide) (by decide))
        rw [k43] at rbq
        have rbv := rbq
        refine tm_iconst dX12_oneRoutine_48 ?_
        refine tm_icmp_eq (tgt := 58) dX12_oneRoutine_49 (by decide) ⟨by omega, by omega⟩ ⟨by decide, by decide⟩ (fun h18 => ?_) (fun h18 => ?_)
        · have nxr : ¬ ∃ q, RFD σ (σ.2.2 24 0) q := fun z => by obtain ⟨q, z⟩ := z; exact rbs.2 (by omega) q z.1 z.2.1 z.2.2.1
          refine tm_aload_n dX12_oneRoutine_58 rfl 1 rfl ?_
          refine tm_get (k := 44) (v := .ref (b + 1 + 22)) lay_12 dX12_oneRoutine_59 (by decide) fl12_82 rfl ?_
          refine tm_aload_n dX12_oneRoutine_62 rfl 1 rfl ?_
          refine tm_getS (k := 43) (t := σ.1 43) dX12_oneRoutine_63 (by decide) fl12_376 rfl (rfl) ?_
          have g19 := RG.s hR 43
          refine tm_aload_n dX12_oneRoutine_66 rfl 1 rfl ?_
          refine tm_getW (t := σ.2.2 24 0) dX12_oneRoutine_67 fl12_219 (rfl) ?_
          refine tm_last (z := σ.1 43) (v := σ.2.2 24 0) dX12_oneRoutine_70 (show mT[22]? = some (44, 3, 260) from rfl) (by decide) (by omega) (by omega) (by decide) ?_
          refine tm_aload_n dX12_oneRoutine_71 rfl 1 rfl ?_
          refine tm_dup dX12_oneRoutine_72 rfl ?_
          refine tm_getS (k := 43) (t := σ.1 43) dX12_oneRoutine_73 (by decide) fl12_376 rfl (rs_J (rfl)) ?_
          have g20 := RG.s hR 43
          refine tm_iconst dX12_oneRoutine_76 ?_
          refine tm_iadd dX12_oneRoutine_77 ?_
          refine tm_putS (k := 43) (v := (σ.1 43) + 1) lay_12 dX12_oneRoutine_78 (by decide) fl12_376 rfl (tyX12_ok 43 (by decide)) rfl rfl rfl ?_
          refine tm_sub [0, 1] rfl (b_one81 (d) (σ := (sS 43 ((σ.1 43) + 1) (sJ 44 (σ.1 43) (σ.2.2 24 0) σ))) (p := σ.1 19) (ρ := σ) ((hR.J).S (by omega)) hoh ⟨((Fr.rfl.J (by decide)).S (by decide)), (show FLT σ (sS 43 ((σ.1 43) + 1) (sJ 44 (σ.1 43) (σ.2.2 24 0) σ)) from FLT.eq rfl), hoh.2.2.2.2.2.1.fr (show Fr [26, 27, 43] [] [44] σ (sS 43 ((σ.1 43) + 1) (sJ 44 (σ.1 43) (σ.2.2 24 0) σ)) from ((Fr.rfl.J (by decide)).S (by decide))) (by decide), fun z => absurd (by omega) z, fun _ => ⟨(show (sS 43 ((σ.1 43) + 1) (sJ 44 (σ.1 43) (σ.2.2 24 0) σ)).1 43 = σ.1 43 + 1 from rs_eq), fun r _ => by rw [(show Fr [26, 27, 43] [] [44] σ (sS 43 ((σ.1 43) + 1) (sJ 44 (σ.1 43) (σ.2.2 24 0) σ)) from ((Fr.rfl.J (by decide)).S (by decide))).2.1 35 (by decide), (show Fr [26, 27, 43] [] [44] σ (sS 43 ((σ.1 43) + 1) (sJ 44 (σ.1 43) (σ.2.2 24 0) σ)) from ((Fr.rfl.J (by decide)).S (by decide))).2.1 36 (by decide)]; exact ⟨rfl, rfl⟩, fun j _ => by rw [(show Fr [26, 27, 43] [] [44] σ (sS 43 ((σ.1 43) + 1) (sJ 44 (σ.1 43) (σ.2.2 24 0) σ)) from ((Fr.rfl.J (by decide)).S (by decide))).2.1 45 (by decide)], (fun _ => by omega)⟩, by rw [show (sS 43 ((σ.1 43) + 1) (sJ 44 (σ.1 43) (σ.2.2 24 0) σ)).1 43 = σ.1 43 + 1 from rs_eq]; omega⟩ (show Fr [26, 27, 43] [] [44] σ (sS 43 ((σ.1 43) + 1) (sJ 44 (σ.1 43) (σ.2.2 24 0) σ)) from ((Fr.rfl.J (by decide)).S (by decide))) nmw (by unfold rnP; rw [ifP_t (by omega), ifP_f nxr, ifP_f (by omega)]) rfl (by omega) (fun v τ z1 z2 z3 z4 z5 z6 => ⟨_, rfl, z3, z1, z2, z4, z5, z6⟩) _  rfl)
        · refine tm_aload_n dX12_oneRoutine_52 rfl 1 rfl ?_
          refine tm_iconst dX12_oneRoutine_53 ?_
          refine tm_iload_n dX12_oneRoutine_54 rfl 0 rfl ?_
          refine tm_callV (M := m_X12_oneRoutine) (pc := 55) (ix := 274) (M' := m_X12_note) (As := [.int (iI 2), .int (iI (σ.1 19))]) (rest := []) dX12_oneRoutine_55 ok_X12_note im_X12_note se_X12_note ml12_274 np_X12_note rfl rfl (Nat.le_of_ble_eq_true rfl) (Nat.le_of_ble_eq_true rfl) rfl (c2_X12_note (d + 61) (σ := σ) (f := 2) (p := σ.1 19) hR (by omega) (by omega)) (fun r21 σ22 hp => ?_)
          obtain ⟨rfl, f24, f25, f26, f27, f28⟩ := hp
          show Tm _ _ 58 b σ22 [(1, .int (iI (σ.1 19))), (0, .ref b)] [] _
          have nt2f := f26
          have nt2n := f27
          have nt2e := f28
          have exr : ∃ q, RFD σ (σ.2.2 24 0) q := ⟨_, rbs.rfd (by omega) rbq.2⟩
          refine tm_aload_n dX12_oneRoutine_58 rfl 1 rfl ?_
          refine tm_get (k := 44) (v := .ref (b + 1 + 22)) lay_12 dX12_oneRoutine_59 (by decide) fl12_82 rfl ?_
          refine tm_aload_n dX12_oneRoutine_62 rfl 1 rfl ?_
          refine tm_getS (k := 43) (t := σ.1 43) dX12_oneRoutine_63 (by decide) fl12_376 rfl (rs_F f24 (by decide) (rfl)) ?_
          have g29 := RG.s hR 43
          refine tm_aload_n dX12_oneRoutine_66 rfl 1 rfl ?_
          refine tm_getW (t := σ.2.2 24 0) dX12_oneRoutine_67 fl12_219 (rj_F f24 (by decide) (rfl)) ?_
          refine tm_last (z := σ.1 43) (v := σ.2.2 24 0) dX12_oneRoutine_70 (show mT[22]? = some (44, 3, 260) from rfl) (by decide) (by omega) (by omega) (by decide) ?_
          refine tm_aload_n dX12_oneRoutine_71 rfl 1 rfl ?_
          refine tm_dup dX12_oneRoutine_72 rfl ?_
          refine tm_getS (k := 43) (t := σ.1 43) dX12_oneRoutine_73 (by decide) fl12_376 rfl (rs_J (rs_F f24 (by decide) (rfl))) ?_
          have g30 := RG.s hR 43
          refine tm_iconst dX12_oneRoutine_76 ?_
          refine tm_iadd dX12_oneRoutine_77 ?_
          refine tm_putS (k := 43) (v := (σ.1 43) + 1) lay_12 dX12_oneRoutine_78 (by decide) fl12_376 rfl (tyX12_ok 43 (by decide)) rfl rfl rfl ?_
          refine tm_sub [0, 1] rfl (b_one81 (d) (σ := (sS 43 ((σ.1 43) + 1) (sJ 44 (σ.1 43) (σ.2.2 24 0) σ22))) (p := σ.1 19) (ρ := σ) ((f25.J).S (by omega)) hoh ⟨(((Fr.rfl.trans (Fr.sub f24 (by decide) (by decide) (by decide))).J (by decide)).S (by decide)), (show FLT σ (sS 43 ((σ.1 43) + 1) (sJ 44 (σ.1 43) (σ.2.2 24 0) σ22)) from nt2f), hoh.2.2.2.2.2.1.fr (show Fr [26, 27, 43] [] [44] σ (sS 43 ((σ.1 43) + 1) (sJ 44 (σ.1 43) (σ.2.2 24 0) σ22)) from (((Fr.rfl.trans (Fr.sub f24 (by decide) (by decide) (by decide))).J (by decide)).S (by decide))) (by decide), fun z => absurd (by omega) z, fun _ => ⟨(show (sS 43 ((σ.1 43) + 1) (sJ 44 (σ.1 43) (σ.2.2 24 0) σ22)).1 43 = σ.1 43 + 1 from rs_eq), fun r _ => by rw [(show Fr [26, 27, 43] [] [44] σ (sS 43 ((σ.1 43) + 1) (sJ 44 (σ.1 43) (σ.2.2 24 0) σ22)) from (((Fr.rfl.trans (Fr.sub f24 (by decide) (by decide) (by decide))).J (by decide)).S (by decide))).2.1 35 (by decide), (show Fr [26, 27, 43] [] [44] σ (sS 43 ((σ.1 43) + 1) (sJ 44 (σ.1 43) (σ.2.2 24 0) σ22)) from (((Fr.rfl.trans (Fr.sub f24 (by decide) (by decide) (by decide))).J (by decide)).S (by decide))).2.1 36 (by decide)]; exact ⟨rfl, rfl⟩, fun j _ => by rw [(show Fr [26, 27, 43] [] [44] σ (sS 43 ((σ.1 43) + 1) (sJ 44 (σ.1 43) (σ.2.2 24 0) σ22)) from (((Fr.rfl.trans (Fr.sub f24 (by decide) (by decide) (by decide))).J (by decide)).S (by decide))).2.1 45 (by decide)], (fun _ => by omega)⟩, by rw [show (sS 43 ((σ.1 43) + 1) (sJ 44 (σ.1 43) (σ.2.2 24 0) σ22)).1 43 = σ.1 43 + 1 from rs_eq]; omega⟩ (show Fr [26, 27, 43] [] [44] σ (sS 43 ((σ.1 43) + 1) (sJ 44 (σ.1 43) (σ.2.2 24 0) σ22)) from (((Fr.rfl.trans (Fr.sub f24 (by decide) (by decide) (by decide))).J (by decide)).S (by decide))) nmw (by unfold rnP; rw [ifP_t (by omega), ifP_t exr, ifP_f (by omega)]; rw [← nt2e]) rfl (by omega) (fun v τ z1 z2 z3 z4 z5 z6 => ⟨_, rfl, z3, z1, z2, z4, z5, z6⟩) _  rfl)
      · refine tm_aload_n dX12_oneRoutine_34 rfl 1 rfl ?_
        refine tm_iconst dX12_oneRoutine_35 ?_
        refine tm_iload_n dX12_oneRoutine_36 rfl 0 rfl ?_
        refine tm_callV (M := m_X12_oneRoutine) (pc := 37) (ix := 274) (M' := m_X12_note) (As := [.int (iI 5), .int (iI (σ.1 19))]) (rest := []) dX12_oneRoutine_37 ok_X12_note im_X12_note se_X12_note ml12_274 np_X12_note rfl rfl (Nat.le_of_ble_eq_true rfl) (Nat.le_of_ble_eq_true rfl) rfl (c2_X12_note (d + 61) (σ := σ) (f := 5) (p := σ.1 19) hR (by omega) (by omega)) (fun r31 σ32 hp => ?_)
        obtain ⟨rfl, f34, f35, f36, f37, f38⟩ := hp
        show Tm _ _ 40 b σ32 [(1, .int (iI (σ.1 19))), (0, .ref b)] [] _
        have nt1f := f36
        have nt1n := f37
        have nt1e : σ32 = ntP 5 (σ.1 19) σ := f38
        refine tm_aload_n dX12_oneRoutine_40 rfl 1 rfl ?_
        refine tm_aload_n dX12_oneRoutine_41 rfl 1 rfl ?_
        refine tm_getW (t := σ.2.2 24 0) dX12_oneRoutine_42 fl12_219 (rj_F f34 (by decide) (rfl)) ?_
        refine tm_callV (M := m_X12_oneRoutine) (pc := 45) (ix := 363) (M' := m_X12_routineBy) (As := [.long (σ.2.2 24 0)]) (rest := []) dX12_oneRoutine_45 ok_X12_routineBy im_X12_routineBy se_X12_routineBy ml12_363 np_X12_routineBy rfl rfl (Nat.le_of_ble_eq_true rfl) (Nat.le_of_ble_eq_true rfl) rfl (c2_X12_routineBy (d + 61) (σ := σ32) (w := σ.2.2 24 0) f35 (by rw [show σ32.1 43 = σ.1 43 from rs_F f34 (by decide) (rfl)]; exact oh43.1)) (fun r39 σ40 hp => ?_)
        obtain ⟨v41, rfl, rfl, f42, f43⟩ := hp
        show Tm _ _ 48 b σ32 [(1, .int (iI (σ.1 19))), (0, .ref b)] [.int (iI v41)] _
        have k43 : σ32.1 43 = σ.1 43 := rs_F f34 (by decide) (rfl)
        have rbq := f42
        have rbs : RBY σ (σ.2.2 24 0) (v41) := (f43).bt (TBm.of (show Fr [26, 27] [] [] σ σ32 from (Fr.rfl.trans (Fr.sub f34 (by decide) (by decide) (by decide)))) (by decide) (by decide) (by decide) (by decide))
        rw [k43] at rbq
        have rbv := rbq
        refine tm_iconst dX12_oneRoutine_48 ?_
        refine tm_icmp_eq (tgt := 58) dX12_oneRoutine_49 (by decide) ⟨by omega, by omega⟩ ⟨by decide, by decide⟩ (fun h44 => ?_) (fun h44 => ?_)
        · have nxr : ¬ ∃ q, RFD σ (σ.2.2 24 0) q := fun z => by obtain ⟨q, z⟩ := z; exact rbs.2 (by omega) q z.1 z.2.1 z.2.2.1
          refine tm_aload_n dX12_oneRoutine_58 rfl 1 rfl ?_
          refine tm_get (k := 44) (v := .ref (b + 1 + 22)) lay_12 dX12_oneRoutine_59 (by decide) fl12_82 rfl ?_
          refine tm_aload_n dX12_oneRoutine_62 rfl 1 rfl ?_
          refine tm_getS (k := 43) (t := σ.1 43) dX12_oneRoutine_63 (by decide) fl12_376 rfl (rs_F f34 (by decide) (rfl)) ?_
          have g45 := RG.s hR 43
          refine tm_aload_n dX12_oneRoutine_66 rfl 1 rfl ?_
          refine tm_getW (t := σ.2.2 24 0) dX12_oneRoutine_67 fl12_219 (rj_F f34 (by decide) (rfl)) ?_
          refine tm_last (z := σ.1 43) (v := σ.2.2 24 0) dX12_oneRoutine_70 (show mT[22]? = some (44, 3, 260) from rfl) (by decide) (by omega) (by omega) (by decide) ?_
          refine tm_aload_n dX12_oneRoutine_71 rfl 1 rfl ?_
          refine tm_dup dX12_oneRoutine_72 rfl ?_
          refine tm_getS (k := 43) (t := σ.1 43) dX12_oneRoutine_73 (by decide) fl12_376 rfl (rs_J (rs_F f34 (by decide) (rfl))) ?_
          have g46 := RG.s hR 43
          refine tm_iconst dX12_oneRoutine_76 ?_
          refine tm_iadd dX12_oneRoutine_77 ?_
          refine tm_putS (k := 43) (v := (σ.1 43) + 1) lay_12 dX12_oneRoutine_78 (by decide) fl12_376 rfl (tyX12_ok 43 (by decide)) rfl rfl rfl ?_
          refine tm_sub [0, 1] rfl (b_one81 (d) (σ := (sS 43 ((σ.1 43) + 1) (sJ 44 (σ.1 43) (σ.2.2 24 0) σ32))) (p := σ.1 19) (ρ := σ) ((f35.J).S (by omega)) hoh ⟨(((Fr.rfl.trans (Fr.sub f34 (by decide) (by decide) (by decide))).J (by decide)).S (by decide)), (show FLT σ (sS 43 ((σ.1 43) + 1) (sJ 44 (σ.1 43) (σ.2.2 24 0) σ32)) from nt1f), hoh.2.2.2.2.2.1.fr (show Fr [26, 27, 43] [] [44] σ (sS 43 ((σ.1 43) + 1) (sJ 44 (σ.1 43) (σ.2.2 24 0) σ32)) from (((Fr.rfl.trans (Fr.sub f34 (by decide) (by decide) (by decide))).J (by decide)).S (by decide))) (by decide), fun z => absurd (by omega) z, fun _ => ⟨(show (sS 43 ((σ.1 43) + 1) (sJ 44 (σ.1 43) (σ.2.2 24 0) σ32)).1 43 = σ.1 43 + 1 from rs_eq), fun r _ => by rw [(show Fr [26, 27, 43] [] [44] σ (sS 43 ((σ.1 43) + 1) (sJ 44 (σ.1 43) (σ.2.2 24 0) σ32)) from (((Fr.rfl.trans (Fr.sub f34 (by decide) (by decide) (by decide))).J (by decide)).S (by decide))).2.1 35 (by decide), (show Fr [26, 27, 43] [] [44] σ (sS 43 ((σ.1 43) + 1) (sJ 44 (σ.1 43) (σ.2.2 24 0) σ32)) from (((Fr.rfl.trans (Fr.sub f34 (by decide) (by decide) (by decide))).J (by decide)).S (by decide))).2.1 36 (by decide)]; exact ⟨rfl, rfl⟩, fun j _ => by rw [(show Fr [26, 27, 43] [] [44] σ (sS 43 ((σ.1 43) + 1) (sJ 44 (σ.1 43) (σ.2.2 24 0) σ32)) from (((Fr.rfl.trans (Fr.sub f34 (by decide) (by decide) (by decide))).J (by decide)).S (by decide))).2.1 45 (by decide)], (fun z => absurd z (by have y := nt1n (by omega); exact y))⟩, by rw [show (sS 43 ((σ.1 43) + 1) (sJ 44 (σ.1 43) (σ.2.2 24 0) σ32)).1 43 = σ.1 43 + 1 from rs_eq]; omega⟩ (show Fr [26, 27, 43] [] [44] σ (sS 43 ((σ.1 43) + 1) (sJ 44 (σ.1 43) (σ.2.2 24 0) σ32)) from (((Fr.rfl.trans (Fr.sub f34 (by decide) (by decide) (by decide))).J (by decide)).S (by decide))) nmw (by unfold rnP; rw [ifP_t (by omega), ifP_f nxr, ifP_t (by omega)]; rw [← nt1e]) rfl (by omega) (fun v τ z1 z2 z3 z4 z5 z6 => ⟨_, rfl, z3, z1, z2, z4, z5, z6⟩) _  rfl)
        · refine tm_aload_n dX12_oneRoutine_52 rfl 1 rfl ?_
          refine tm_iconst dX12_oneRoutine_53 ?_
          refine tm_iload_n dX12_oneRoutine_54 rfl 0 rfl ?_
          refine tm_callV (M := m_X12_oneRoutine) (pc := 55) (ix := 274) (M' := m_X12_note) (As := [.int (iI 2), .int (iI (σ.1 19))]) (rest := []) dX12_oneRoutine_55 ok_X12_note im_X12_note se_X12_note ml12_274 np_X12_note rfl rfl (Nat.le_of_ble_eq_true rfl) (Nat.le_of_ble_eq_true rfl) rfl (c2_X12_note (d + 61) (σ := σ32) (f := 2) (p := σ.1 19) f35 (by omega) (by omega)) (fun r47 σ48 hp => ?_)
          obtain ⟨rfl, f50, f51, f52, f53, f54⟩ := hp
          show Tm _ _ 58 b σ48 [(1, .int (iI (σ.1 19))), (0, .ref b)] [] _
          have nt2f := f52
          have nt2n := f53
          have nt2e := f54
          have exr : ∃ q, RFD σ (σ.2.2 24 0) q := ⟨_, rbs.rfd (by omega) rbq.2⟩
          refine tm_aload_n dX12_oneRoutine_58 rfl 1 rfl ?_
          refine tm_get (k := 44) (v := .ref (b + 1 + 22)) lay_12 dX12_oneRoutine_59 (by decide) fl12_82 rfl ?_
          refine tm_aload_n dX12_oneRoutine_62 rfl 1 rfl ?_
          refine tm_getS (k := 43) (t := σ.1 43) dX12_oneRoutine_63 (by decide) fl12_376 rfl (rs_F f50 (by decide) (rs_F f34 (by decide) (rfl))) ?_
          have g55 := RG.s hR 43
          refine tm_aload_n dX12_oneRoutine_66 rfl 1 rfl ?_
          refine tm_getW (t := σ.2.2 24 0) dX12_oneRoutine_67 fl12_219 (rj_F f50 (by decide) (rj_F f34 (by decide) (rfl))) ?_
          refine tm_last (z := σ.1 43) (v := σ.2.2 24 0) dX12_oneRoutine_70 (show mT[22]? = some (44, 3, 260) from rfl) (by decide) (by omega) (by omega) (by decide) ?_
          refine tm_aload_n dX12_oneRoutine_71 rfl 1 rfl ?_
          refine tm_dup dX12_oneRoutine_72 rfl ?_
          refine tm_getS (k := 43) (t := σ.1 43) dX12_oneRoutine_73 (by decide) fl12_376 rfl (rs_J (rs_F f50 (by decide) (rs_F f34 (by decide) (rfl)))) ?_
          have g56 := RG.s hR 43
          refine tm_iconst dX12_oneRoutine_76 ?_
          refine tm_iadd dX12_oneRoutine_77 ?_
          refine tm_putS (k := 43) (v := (σ.1 43) + 1) lay_12 dX12_oneRoutine_78 (by decide) fl12_376 rfl (tyX12_ok 43 (by decide)) rfl rfl rfl ?_
          refine tm_sub [0, 1] rfl (b_one81 (d) (σ := (sS 43 ((σ.1 43) + 1) (sJ 44 (σ.1 43) (σ.2.2 24 0) σ48))) (p := σ.1 19) (ρ := σ) ((f51.J).S (by omega)) hoh ⟨((((Fr.rfl.trans (Fr.sub f34 (by decide) (by decide) (by decide))).trans (Fr.sub f50 (by decide) (by decide) (by decide))).J (by decide)).S (by decide)), (show FLT σ (sS 43 ((σ.1 43) + 1) (sJ 44 (σ.1 43) (σ.2.2 24 0) σ48)) from (nt1f).trans (nt2f)), hoh.2.2.2.2.2.1.fr (show Fr [26, 27, 43] [] [44] σ (sS 43 ((σ.1 43) + 1) (sJ 44 (σ.1 43) (σ.2.2 24 0) σ48)) from ((((Fr.rfl.trans (Fr.sub f34 (by decide) (by decide) (by decide))).trans (Fr.sub f50 (by decide) (by decide) (by decide))).J (by decide)).S (by decide))) (by decide), fun z => absurd (by omega) z, fun _ => ⟨(show (sS 43 ((σ.1 43) + 1) (sJ 44 (σ.1 43) (σ.2.2 24 0) σ48)).1 43 = σ.1 43 + 1 from rs_eq), fun r _ => by rw [(show Fr [26, 27, 43] [] [44] σ (sS 43 ((σ.1 43) + 1) (sJ 44 (σ.1 43) (σ.2.2 24 0) σ48)) from ((((Fr.rfl.trans (Fr.sub f34 (by decide) (by decide) (by decide))).trans (Fr.sub f50 (by decide) (by decide) (by decide))).J (by decide)).S (by decide))).2.1 35 (by decide), (show Fr [26, 27, 43] [] [44] σ (sS 43 ((σ.1 43) + 1) (sJ 44 (σ.1 43) (σ.2.2 24 0) σ48)) from ((((Fr.rfl.trans (Fr.sub f34 (by decide) (by decide) (by decide))).trans (Fr.sub f50 (by decide) (by decide) (by decide))).J (by decide)).S (by decide))).2.1 36 (by decide)]; exact ⟨rfl, rfl⟩, fun j _ => by rw [(show Fr [26, 27, 43] [] [44] σ (sS 43 ((σ.1 43) + 1) (sJ 44 (σ.1 43) (σ.2.2 24 0) σ48)) from ((((Fr.rfl.trans (Fr.sub f34 (by decide) (by decide) (by decide))).trans (Fr.sub f50 (by decide) (by decide) (by decide))).J (by decide)).S (by decide))).2.1 45 (by decide)], (fun z => absurd z (by have y := nt1n (by omega); have y2 := nt2f.1 y; exact y2))⟩, by rw [show (sS 43 ((σ.1 43) + 1) (sJ 44 (σ.1 43) (σ.2.2 24 0) σ48)).1 43 = σ.1 43 + 1 from rs_eq]; omega⟩ (show Fr [26, 27, 43] [] [44] σ (sS 43 ((σ.1 43) + 1) (sJ 44 (σ.1 43) (σ.2.2 24 0) σ48)) from ((((Fr.rfl.trans (Fr.sub f34 (by decide) (by decide) (by decide))).trans (Fr.sub f50 (by decide) (by decide) (by decide))).J (by decide)).S (by decide))) nmw (by unfold rnP; rw [ifP_t (by omega), ifP_t exr, ifP_t (by omega)]; rw [← nt1e, ← nt2e]) rfl (by omega) (fun v τ z1 z2 z3 z4 z5 z6 => ⟨_, rfl, z3, z1, z2, z4, z5, z6⟩) _  rfl)
  · refine tm_aload_n dX12_oneRoutine_12 rfl 1 rfl ?_
    refine tm_callV (M := m_X12_oneRoutine) (pc := 13) (ix := 261) (M' := m_X12_wrong) (As := []) (rest := []) dX12_oneRoutine_13 ok_X12_wrong im_X12_wrong se_X12_wrong ml12_261 np_X12_wrong rfl rfl (Nat.le_of_ble_eq_true rfl) (Nat.le_of_ble_eq_true rfl) rfl (c_X12_wrong (d + 61) (σ := σ)  hR) (fun r57 σ58 hp => ?_)
    obtain ⟨v59, rfl, f60, f61, f62, f63, f64, f65⟩ := hp
    show Tm _ _ 16 b σ58 [(1, .int (iI (σ.1 19))), (0, .ref b)] [.int (iI v59)] _
    exact tm_zret (v := v59) rfl (by omega) dX12_oneRoutine_16 (⟨_, rfl, by omega, (Fr.rfl.trans (Fr.sub f61 (by decide) (by decide) (by decide))), f62, (PBO.rfl hoh).fin (Fr.sub f61 (by decide) (by decide) (by decide)) (FLT.wr f64 f65) (fun j _ => congrFun (f61.2.1 9 (by decide)) j), fun q => absurd q (by omega), fun _ x => g30f (σ := sS 34 x σ) (nnm_ (by omega)) ((WRG.of f65).x x)⟩)
