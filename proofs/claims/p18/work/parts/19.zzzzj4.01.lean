section
set_option maxHeartbeats 1000000 in
set_option maxRecDepth 20000 in
theorem l_X0_sameNames_w_41 (d : Nat) {T : CT} {σ0 : MS} {a : Nat} {rx1 : Nat} {rx3 : Nat} {c4 : Int} {c5 : Int} {c6 : Int} {to : Nat} {pl : Nat} {txa : Nat} {txb : Nat} {y : Nat} {txe : Nat} {pxe : Nat} {c : Nat} {post : Option Value → CT → MS → Prop} (h_a : OB T a 0) (h_rx1 : OB T rx1 10) (h_rx3 : OB T rx3 1) (r_c4 : -2147483648 ≤ c4 ∧ c4 ≤ 2147483647) (r_c5 : 0 ≤ c5 ∧ c5 ≤ 29145) (r_c6 : 0 ≤ c6 ∧ c6 ≤ 12) (hw0 : WT T σ0) (hto : σ0.2.1 0 a = (to : Int)) (hpl : σ0.2.1 1 a = (pl : Int)) (htxa : σ0.2.1 59 to = (txa : Int)) (htxb : σ0.2.1 60 to = (txb : Int)) (hy : σ0.2.1 55 to = (y : Int)) (htxe : σ0.2.1 63 to = (txe : Int)) (hpxe : σ0.2.1 63 pl = (pxe : Int)) (hx_136 : ∀ (i2 : Int) (i7 : Int) (σ : MS) , (WT T σ) → (FrC T [2, 3] σ0 σ) → (0 ≤ i2 ∧ i2 ≤ 1) → (0 ≤ i7 ∧ i7 ≤ 2147483647) → (CHX [(2, a), (3, a)] [] [] σ0 σ) → (True) → (True) → (True) → (SNX9 T σ0 to pl c txa txb txe pxe (SNN9 T σ0 to c) i2) → Tn (d + 5) m_X0_sameNames 136 T σ [(0, .ref a), (1, .ref rx1), (2, .int (iI i2)), (3, .ref rx3), (4, .int (iI c4)), (5, .int (iI c5)), (6, .int (iI c6)), (7, .int (iI i7))] [] post) : ∀ (nq9 : Nat) (i2 : Int) (i7 : Int) (σ : MS) , (WT T σ) → (FrC T [2, 3] σ0 σ) → (0 ≤ i2 ∧ i2 ≤ 1) → (0 ≤ i7 ∧ i7 ≤ 2147483647) → (CHX [(2, a), (3, a)] [] [] σ0 σ) → (SNG9 T σ0 to txa txb c y ∧ rx3 = c ∧ c4 = jA T txa (σ0.2.1 70 to) σ0 ∧ c5 = jA T txb (σ0.2.1 70 to) σ0 * slF (rwF σ0 14 c) (σ0.2.1 10 c) + slF (rwF σ0 14 c) (σ0.2.1 71 to) ∧ c6 = SNN9 T σ0 to c) → (SNX9 T σ0 to pl c txa txb txe pxe i7 i2) → (0 ≤ i7 ∧ i7 ≤ c6) → (2147483700 - i7).toNat = nq9 → Tn (d + 5) m_X0_sameNames 41 T σ [(0, .ref a), (1, .ref rx1), (2, .int (iI i2)), (3, .ref rx3), (4, .int (iI c4)), (5, .int (iI c5)), (6, .int (iI c6)), (7, .int (iI i7))] [] post := by
  intro nq9
  induction nq9 using Nat.strongRecOn with
  | _ nq9 ih =>
    intro i2 i7 σ hw hF r_i2 r_i7 hC hQ hA hk hm
    refine tn_iload dX0_sameNames_41 7 rfl ?_
    refine tn_iload dX0_sameNames_43 6 rfl ?_
    refine tn_icmp_ge (tgt := 136) dX0_sameNames_45 (by decide) ⟨by omega, by omega⟩ ⟨by omega, by omega⟩ (fun h1 => ?_) (fun h1 => ?_)
    · exact tn_sub [0, 1, 2, 3, 4, 5, 6, 7] rfl (hx_136 (i2) (i7) σ hw (FrC.rfl.trans (FrC.sub hF (by decide))) (by omega) (by omega) hC trivial trivial trivial (by have e : i7 = SNN9 T σ0 to c := (by have z9 := hQ.2.2.2.2; omega); rw [← e]; exact hA))
    · refine tn_aload_n dX0_sameNames_48 rfl 1 rfl ?_
      refine tn_iload dX0_sameNames_49 4 rfl ?_
      refine tn_iload dX0_sameNames_51 5 rfl ?_
      refine tn_iload dX0_sameNames_53 7 rfl ?_
      refine tn_iadd dX0_sameNames_55 ?_
      refine tn_callV (M := m_X0_sameNames) (pc := 56) (ix := 91) (ci := 10) (M' := m_X10_idIn) (As := [.int (iI c4), .int (iI (c5 + i7))]) (rest := []) dX0_sameNames_56 ok_X10_idIn im_X10_idIn se_X10_idIn ml0_91 np_X10_idIn rfl rfl h_rx1 rfl (Nat.le_of_ble_eq_true rfl) (Nat.le_of_ble_eq_true rfl) rfl (k_X10_idIn_t (d + 2) (T := T) (σ := σ) (a := rx1) (p1 := c4) (p2 := c5 + i7) h_rx1 (by omega) (by omega) hw ) (fun r2 T4 σ3 gt5 hp => ?_)
      obtain ⟨v8, rfl, rfl, rfl, f6, f7⟩ := hp
      clear gt5
      show Tn _ _ 59 T σ [(0, .ref a), (1, .ref rx1), (2, .int (iI i2)), (3, .ref rx3), (4, .int (iI c4)), (5, .int (iI c5)), (6, .int (iI c6)), (7, .int (iI i7))] [.int (iI v8)] _
      have hS := SEQ9.of hC
      obtain ⟨hg, hx3, h4e, h5e, h6e⟩ := hQ
      have hid : v8 = jID T σ0 to txa txb c i7 := (by unfold jID; rw [← h4e, ← h5e, ← se_jI hS]; exact f7)
      have hgr := hg.2.2.2.1
      rw [← h6e] at hgr
      have hir : 0 ≤ v8 ∧ v8 ≤ 1000 := (by rw [hid]; exact hg.2.2.2.2 i7 (by omega) (by omega))
      refine tn_istore (L' := [(8, .int (iI v8)), (0, .ref a), (1, .ref rx1), (2, .int (iI i2)), (3, .ref rx3), (4, .int (iI c4)), (5, .int (iI c5)), (6, .int (iI c6)), (7, .int (iI i7))]) dX0_sameNames_59 (by decide) rfl ?_
      refine tn_aload_n dX0_sameNames_61 rfl 4 rfl ?_
      refine tn_ifnull dX0_sameNames_62 ?_
      refine tn_aload_n dX0_sameNames_65 rfl 2 rfl ?_
      refine tn_aload_n dX0_sameNames_66 rfl 4 rfl ?_
      refine tn_iload dX0_sameNames_67 0 rfl ?_
      obtain ⟨xq9, hx10, hl12, hk11a, hk11b⟩ := wf_5 hw0 h_rx3
      have hk11i : IA T xq9 := by unfold IA; omega
      have hk11c : CELL T rx3 xq9 := ⟨hk11a, hk11b⟩
      clear hk11a hk11b
      refine tn_callV (M := m_X0_sameNames) (pc := 69) (ix := 97) (ci := 10) (M' := m_X10_whereOf) (As := [.ref rx3, .int (iI v8)]) (rest := []) dX0_sameNames_69 ok_X10_whereOf im_X10_whereOf se_X10_whereOf ml0_97 np_X10_whereOf rfl rfl h_rx1 rfl (Nat.le_of_ble_eq_true rfl) (Nat.le_of_ble_eq_true rfl) rfl (k_X10_whereOf_t (d + 2) (T := T) (σ := σ) (a := rx1) (c := rx3) (i := v8) (x := xq9) h_rx1 h_rx3 (by omega) hw (rc_F hF (Or.inl (by decide)) (by decide) (hx10)) hir) (fun r13 T15 σ14 gt16 hp => ?_)
      obtain ⟨v19, rfl, rfl, rfl, f17, f18⟩ := hp
      clear gt16
      show Tn _ _ 72 T σ [(8, .int (iI v8)), (0, .ref a), (1, .ref rx1), (2, .int (iI i2)), (3, .ref rx3), (4, .int (iI c4)), (5, .int (iI c5)), (6, .int (iI c6)), (7, .int (iI i7))] [.int (iI v19)] _
      have e5c : adN σ0 5 c = xq9 := (by rw [← hx3]; exact adN_of hx10)
      have hW : v19 = jWO T σ0 c (adN σ0 5 c) (jID T σ0 to txa txb c i7) := (by rw [← hid, e5c, ← se_jWO hS, ← hx3]; exact f18)
      refine tn_bipush dX0_sameNames_72 (by decide) ?_
      refine tn_icmp_lt (tgt := 90) dX0_sameNames_74 (by decide) ⟨by omega, by omega⟩ ⟨by decide, by decide⟩ (fun h20 => ?_) (fun h20 => ?_)
      · refine tn_aload_n dX0_sameNames_90 rfl 1 rfl ?_
        refine tn_dup dX0_sameNames_91 rfl ?_
        refine tn_getI (ci := 0) (i := 2) (n := 2) (t := σ.2.1 2 a) dX0_sameNames_92 rfl lay_0 (by decide) fl0_23 h_a rfl rfl (rfl) ?_
        have g21 : ((-2147483648 : Int) ≤ σ.2.1 2 a ∧ σ.2.1 2 a ≤ 2147483647) := wf_2 hw h_a
        refine tn_iconst dX0_sameNames_95 ?_
        refine tn_iadd dX0_sameNames_96 ?_
        rw [show iI ((σ.2.1 2 a) + 1) = iI (w32 ((σ.2.1 2 a) + 1)) from (iI_self _).symm]
        have g22r : -2147483648 ≤ w32 ((σ.2.1 2 a) + 1) ∧ w32 ((σ.2.1 2 a) + 1) ≤ 2147483647 := inR_toInt _
        refine tn_putV (ci := 0) (i := 2) (n := 2) (r := false) (v := w32 ((σ.2.1 2 a) + 1)) tyX0 tyX0_ok nmX0 dX0_sameNames_97 rfl lay_0 (by decide) fl0_23 rfl (tyX0_ok 2 (by decide)) rfl rfl rfl h_a rfl rfl ?_
        refine tn_iload_n dX0_sameNames_100 rfl 3 rfl ?_
        refine tn_aload_n dX0_sameNames_101 rfl 1 rfl ?_
        have hk25 : (T to).1 = 37 := ob_of (wf_0 hw0 h_a) hto
        have hk25o : OB T to 7 := ⟨by omega, by rw [hk25]; rfl, by omega⟩
        refine tn_getR (ci := 0) (i := 0) (n := 0) (x := to) dX0_sameNames_102 rfl lay_0 (by decide) fl0_14 h_a rfl rfl (rc_o (by decide) (rc_F hF (Or.inl (by decide)) (by decide) (hto))) ?_
        have hS2 : SEQ9 σ0 (sA 2 a (w32 ((σ.2.1 2 a) + 1)) σ) := SEQ9.of (hC.fld (by simp) (by decide))
        refine tn_aload_n dX0_sameNames_105 rfl 2 rfl ?_
        refine tn_iload dX0_sameNames_106 0 rfl ?_
        obtain ⟨hk29, hl30⟩ : AR T txa 15 9 9 := ar_of (wf_59 hw0 hk25o) htxa
        have hk29i : IA T txa := by unfold IA; omega
        obtain ⟨hl34, hk33a, hk33b⟩ := ex_at (wf_55 hw0 hk25o) hy
        have hk33i : (T y).1 = 4 ∨ (T y).1 = 5 := by omega
        have hk33c : RROW T to y := ⟨hk33a, hk33b⟩
        clear hk33a hk33b
        obtain ⟨hk37, hl38⟩ : AR T txe 1 1728 1728 := ar_of (wf_63 hw0 hk25o) htxe
        have hk37i : IA T txe := by unfold IA; omega
        refine tn_callV (M := m_X0_sameNames) (pc := 108) (ix := 101) (ci := 7) (M' := m_X7_foundValue) (As := [.ref rx1, .int (iI v8)]) (rest := [.int (iI i2)]) dX0_sameNames_108 ok_X7_foundValue im_X7_foundValue se_X7_foundValue ml0_101 np_X7_foundValue rfl rfl hk25o rfl (Nat.le_of_ble_eq_true rfl) (Nat.le_of_ble_eq_true rfl) rfl (k_X7_foundValue_t (d) (T := T) (σ := (sA 2 a (w32 ((σ.2.1 2 a) + 1)) σ)) (a := to) (p1 := rx1) (p2 := v8) (xa := txa) (y := y) (xe := txe) (c := c) hk25o h_rx1 (by omega) (hw.put (by decide) (by decide) (fo_2 (by omega))) (rc_o (by decide) (rc_F hF (Or.inl (by decide)) (by decide) (htxa))) (rc_o (by decide) (rc_F hF (Or.inl (by decide)) (by decide) (hy))) (rc_o (by decide) (rc_F hF (Or.inl (by decide)) (by decide) (htxe))) (by rw [se_jC hS2, se_jA hS2, hS2 70 (by decide) (by decide)]; exact hg.1) hir) (fun r39 T41 σ40 gt42 hp => ?_)
        obtain ⟨v45, rfl, rfl, rfl, f43, f44⟩ := hp
        clear gt42
        show Tn _ _ 111 T (sA 2 a (w32 ((σ.2.1 2 a) + 1)) σ) [(8, .int (iI v8)), (0, .ref a), (1, .ref rx1), (2, .int (iI i2)), (3, .ref rx3), (4, .int (iI c4)), (5, .int (iI c5)), (6, .int (iI c6)), (7, .int (iI i7))] [.int (iI v45), .int (iI i2)] _
        have hFV : v45 = jFV T σ0 to c (adN σ0 5 c) (adN σ0 15 c) txe (jID T σ0 to txa txb c i7) := (by have z := f44; rw [se_jFV hS2, se_ad (f := 5) hS2 (by decide) (by decide), se_ad (f := 15) hS2 (by decide) (by decide), hid] at z; exact z)
        refine tn_aload_n dX0_sameNames_111 rfl 1 rfl ?_
        have hk48 : (T pl).1 = 57 := ob_of (wf_1 hw0 h_a) hpl
        have hk48o : OB T pl 7 := ⟨by omega, by rw [hk48]; rfl, by omega⟩
        refine tn_getR (ci := 0) (i := 1) (n := 1) (x := pl) dX0_sameNames_112 rfl lay_0 (by decide) fl0_20 h_a rfl rfl (rc_o (by decide) (rc_F hF (Or.inl (by decide)) (by decide) (hpl))) ?_
        refine tn_iload dX0_sameNames_115 8 rfl ?_
        obtain ⟨hk52, hl53⟩ : AR T pxe 1 1728 1728 := ar_of (wf_63 hw0 hk48o) hpxe
        have hk52i : IA T pxe := by unfold IA; omega
        refine tn_callV (M := m_X0_sameNames) (pc := 117) (ix := 105) (ci := 7) (M' := m_X7_foundRegister) (As := [.int (iI i7)]) (rest := [.int (iI v45), .int (iI i2)]) dX0_sameNames_117 ok_X7_foundRegister im_X7_foundRegister se_X7_foundRegister ml0_105 np_X7_foundRegister rfl rfl hk48o rfl (Nat.le_of_ble_eq_true rfl) (Nat.le_of_ble_eq_true rfl) rfl (k_X7_foundRegister_t (d + 2) (T := T) (σ := (sA 2 a (w32 ((σ.2.1 2 a) + 1)) σ)) (a := pl) (p1 := i7) (xe := pxe) hk48o (by omega) (hw.put (by decide) (by decide) (fo_2 (by omega))) (rc_o (by decide) (rc_F hF (Or.inl (by decide)) (by decide) (hpxe)))) (fun r54 T56 σ55 gt57 hp => ?_)
        obtain ⟨v60, rfl, rfl, rfl, f58, f59⟩ := hp
        clear gt57
        show Tn _ _ 120 T (sA 2 a (w32 ((σ.2.1 2 a) + 1)) σ) [(8, .int (iI v8)), (0, .ref a), (1, .ref rx1), (2, .int (iI i2)), (3, .ref rx3), (4, .int (iI c4)), (5, .int (iI c5)), (6, .int (iI c6)), (7, .int (iI i7))] [.int (iI v60), .int (iI v45), .int (iI i2)] _
        have hRG : v60 = jRG T σ0 pl pxe i7 := (by have z := f59; rw [se_jRG hS2] at z; exact z)
        refine tn_icmp_ne (tgt := 127) dX0_sameNames_120 (by decide) ⟨by omega, by omega⟩ ⟨by omega, by omega⟩ (fun h61 => ?_) (fun h61 => ?_)
        · have hq9 : ¬ SNE9 T σ0 to pl c txa txb txe pxe i7 := fun q => absurd (hFV.trans ((q (by rw [← hW]; omega)).trans hRG.symm)) (by omega)
          refine tn_iconst dX0_sameNames_127 ?_
          refine tn_iand dX0_sameNames_128 ?_
          refine tn_bandX (x := i2) (y := 0) (by omega) (by omega) (fun z64 g65 g65x => ?_)
          refine tn_istore_n (L' := [(2, .int (iI z64)), (8, .int (iI v8)), (0, .ref a), (1, .ref rx1), (3, .ref rx3), (4, .int (iI c4)), (5, .int (iI c5)), (6, .int (iI c6)), (7, .int (iI i7))]) dX0_sameNames_129 rfl (by decide) rfl ?_
          refine tn_iinc (q0 := 8) (L' := [(7, .int (iI (i7 + 1))), (2, .int (iI z64)), (8, .int (iI v8)), (0, .ref a), (1, .ref rx1), (3, .ref rx3), (4, .int (iI c4)), (5, .int (iI c5)), (6, .int (iI c6))]) dX0_sameNames_130 rfl (by decide) rfl ?_
          refine tn_goto (tgt := 41) dX0_sameNames_133 (by decide) ?_
          exact tn_sub [3, 4, 1, 5, 6, 7, 8, 0] rfl (ih _ (by omega) (z64) (i7 + 1) (sA 2 a (w32 ((σ.2.1 2 a) + 1)) σ) (hw.put (by decide) (by decide) (fo_2 (by omega))) ((FrC.rfl.trans (FrC.sub hF (by decide))).put (by decide) (by decide)) (by omega) (by omega) (hC.fld (by simp) (by decide)) ⟨hg, hx3, h4e, h5e, h6e⟩ (hA.st (by omega) (Or.inr ⟨by omega, hq9⟩)) (by omega) rfl)
        · have hq9 : SNE9 T σ0 to pl c txa txb txe pxe i7 := fun _ => hFV.symm.trans (Eq.trans (by omega) hRG)
          refine tn_iconst dX0_sameNames_123 ?_
          refine tn_goto (tgt := 128) dX0_sameNames_124 (by decide) ?_
          refine tn_iand dX0_sameNames_128 ?_
          refine tn_bandX (x := i2) (y := 1) (by omega) (by omega) (fun z68 g69 g69x => ?_)
          refine tn_istore_n (L' := [(2, .int (iI z68)), (8, .int (iI v8)), (0, .ref a), (1, .ref rx1), (3, .ref rx3), (4, .int (iI c4)), (5, .int (iI c5)), (6, .int (iI c6)), (7, .int (iI i7))]) dX0_sameNames_129 rfl (by decide) rfl ?_
          refine tn_iinc (q0 := 8) (L' := [(7, .int (iI (i7 + 1))), (2, .int (iI z68)), (8, .int (iI v8)), (0, .ref a), (1, .ref rx1), (3, .ref rx3), (4, .int (iI c4)), (5, .int (iI c5)), (6, .int (iI c6))]) dX0_sameNames_130 rfl (by decide) rfl ?_
          refine tn_goto (tgt := 41) dX0_sameNames_133 (by decide) ?_
          exact tn_sub [3, 4, 1, 5, 6, 7, 8, 0] rfl (ih _ (by omega) (z68) (i7 + 1) (sA 2 a (w32 ((σ.2.1 2 a) + 1)) σ) (hw.put (by decide) (by decide) (fo_2 (by omega))) ((FrC.rfl.trans (FrC.sub hF (by decide))).put (by decide) (by decide)) (by omega) (by omega) (hC.fld (by simp) (by decide)) ⟨hg, hx3, h4e, h5e, h6e⟩ (hA.st (by omega) (Or.inl ⟨by omega, hq9⟩)) (by omega) rfl)
      · refine tn_aload_n dX0_sameNames_77 rfl 1 rfl ?_
        refine tn_dup dX0_sameNames_78 rfl ?_
        refine tn_getI (ci := 0) (i := 3) (n := 3) (t := σ.2.1 3 a) dX0_sameNames_79 rfl lay_0 (by decide) fl0_27 h_a rfl rfl (rfl) ?_
        have g70 : ((-2147483648 : Int) ≤ σ.2.1 3 a ∧ σ.2.1 3 a ≤ 2147483647) := wf_3 hw h_a
        refine tn_iconst dX0_sameNames_82 ?_
        refine tn_iadd dX0_sameNames_83 ?_
        rw [show iI ((σ.2.1 3 a) + 1) = iI (w32 ((σ.2.1 3 a) + 1)) from (iI_self _).symm]
        have g71r : -2147483648 ≤ w32 ((σ.2.1 3 a) + 1) ∧ w32 ((σ.2.1 3 a) + 1) ≤ 2147483647 := inR_toInt _
        refine tn_putV (ci := 0) (i := 3) (n := 3) (r := false) (v := w32 ((σ.2.1 3 a) + 1)) tyX0 tyX0_ok nmX0 dX0_sameNames_84 rfl lay_0 (by decide) fl0_27 rfl (tyX0_ok 3 (by decide)) rfl rfl rfl h_a rfl rfl ?_
        refine tn_goto (tgt := 130) dX0_sameNames_87 (by decide) ?_
        refine tn_iinc (q0 := 8) (L' := [(7, .int (iI (i7 + 1))), (8, .int (iI v8)), (0, .ref a), (1, .ref rx1), (2, .int (iI i2)), (3, .ref rx3), (4, .int (iI c4)), (5, .int (iI c5)), (6, .int (iI c6))]) dX0_sameNames_130 rfl (by decide) rfl ?_
        refine tn_goto (tgt := 41) dX0_sameNames_133 (by decide) ?_
        exact tn_sub [2, 3, 4, 5, 6, 7, 8, 0] rfl (ih _ (by omega) (i2) (i7 + 1) (sA 3 a (w32 ((σ.2.1 3 a) + 1)) σ) (hw.put (by decide) (by decide) (fo_3 (by omega))) ((FrC.rfl.trans (FrC.sub hF (by decide))).put (by decide) (by decide)) (by omega) (by omega) (hC.fld (by simp) (by decide)) ⟨hg, hx3, h4e, h5e, h6e⟩ (hA.st (by omega) (Or.inl ⟨rfl, fun q => absurd q (by rw [← hW]; omega)⟩)) (by omega) rfl)
set_option maxHeartbeats 1000000 in
set_option maxRecDepth 20000 in
theorem k_X0_sameNames_w (d : Nat) {T : CT} {σ : MS} {a : Nat} {t : Nat} {to : Nat} {pl : Nat} {txa : Nat} {txb : Nat} {y : Nat} {txe : Nat} {pxe : Nat} {c : Nat} (ha : OB T a 0) (h_t : OB T t 10) (hw : WT T σ) (hto : σ.2.1 0 a = (to : Int)) (hpl : σ.2.1 1 a = (pl : Int)) (htxa : σ.2.1 59 to = (txa : Int)) (htxb : σ.2.1 60 to = (txb : Int)) (hy : σ.2.1 55 to = (y : Int)) (htxe : σ.2.1 63 to = (txe : Int)) (hpxe : σ.2.1 63 pl = (pxe : Int)) (hg : SNG9 T σ to txa txb c y) : Tn (d + 5) m_X0_sameNames 0 T σ [(0, .ref a), (1, .ref t)] [] (fun ro T2 σ2 => ∃ v : Int, ro = some (.int (iI v)) ∧ T = T2 ∧ WT T2 σ2 ∧ FrC T [2, 3] σ σ2 ∧ (v = 0 ∨ v = 1) ∧ (CHX [(2, a), (3, a)] [] [] σ σ2) ∧ (SNX9 T σ to pl c txa txb txe pxe (SNN9 T σ to c) v)) := by
  refine tn_iconst dX0_sameNames_0 ?_
  refine tn_istore_n (L' := [(2, .int (iI 1)), (0, .ref a), (1, .ref t)]) dX0_sameNames_1 rfl (by decide) rfl ?_
  refine tn_aload_n dX0_sameNames_2 rfl 1 rfl ?_
  have hc := hg.1
  have hk3 : (T to).1 = 37 := ob_of (wf_0 hw ha) hto
  have hk3o : OB T to 7 := ⟨by omega, by rw [hk3]; rfl, by omega⟩
  refine tn_getR (ci := 0) (i := 0) (n := 0) (x := to) dX0_sameNames_3 rfl lay_0 (by decide) fl0_14 ha rfl rfl (hto) ?_
  obtain ⟨hk7, hl8⟩ : AR T txa 15 9 9 := ar_of (wf_59 hw hk3o) htxa
  have hk7i : IA T txa := by unfold IA; omega
  obtain ⟨hl12, hk11a, hk11b⟩ := ex_at (wf_55 hw hk3o) hy
  have hk11i : (T y).1 = 4 ∨ (T y).1 = 5 := by omega
  have hk11c : RROW T to y := ⟨hk11a, hk11b⟩
  clear hk11a hk11b
  refine tn_callV (M := m_X0_sameNames) (pc := 6) (ix := 77) (ci := 7) (M' := m_X7_foundCode) (As := []) (rest := []) dX0_sameNames_6 ok_X7_foundCode im_X7_foundCode se_X7_foundCode ml0_77 np_X7_foundCode rfl rfl hk3o rfl (Nat.le_of_ble_eq_true rfl) (Nat.le_of_ble_eq_true rfl) rfl (k_X7_foundCode_j (d + 2) (T := T) (σ := σ) (a := to) (xa := txa) (y := y) hk3o hw (htxa) (hy)) (fun r13 T15 σ14 gt16 hp => ?_)
  obtain ⟨v19, rfl, rfl, rfl, rv20, f17, f18⟩ := hp
  clear gt16
  rcases rv20 with rv20 | ⟨xq21, rfl, hk22⟩
  · exact absurd (JW.neg f18 rv20) (by omega)
  · show Tn _ _ 9 T σ [(2, .int (iI 1)), (0, .ref a), (1, .ref t)] (vl true (xq21 : Int) :: []) _
    rw [vl_ref rfl]
    have hk22o : OB T xq21 1 := hk22.1
    refine tn_astore_n (L' := [(3, .ref xq21), (2, .int (iI 1)), (0, .ref a), (1, .ref t)]) dX0_sameNames_9 rfl (by decide) rfl ?_
    refine tn_aload_n dX0_sameNames_10 rfl 2 rfl ?_
    refine tn_getR (ci := 0) (i := 0) (n := 0) (x := to) dX0_sameNames_11 rfl lay_0 (by decide) fl0_14 ha rfl rfl (hto) ?_
    refine tn_callV (M := m_X0_sameNames) (pc := 14) (ix := 81) (ci := 7) (M' := m_X7_foundSource) (As := []) (rest := []) dX0_sameNames_14 ok_X7_foundSource im_X7_foundSource se_X7_foundSource ml0_81 np_X7_foundSource rfl rfl hk3o rfl (Nat.le_of_ble_eq_true rfl) (Nat.le_of_ble_eq_true rfl) rfl (k_X7_foundSource_t (d + 2) (T := T) (σ := σ) (a := to) (xa := txa) hk3o hw (htxa)) (fun r23 T25 σ24 gt26 hp => ?_)
    obtain ⟨v29, rfl, rfl, rfl, f27, f28⟩ := hp
    clear gt26
    show Tn _ _ 17 T σ [(3, .ref xq21), (2, .int (iI 1)), (0, .ref a), (1, .ref t)] [.int (iI v29)] _
    refine tn_istore (L' := [(4, .int (iI v29)), (3, .ref xq21), (2, .int (iI 1)), (0, .ref a), (1, .ref t)]) dX0_sameNames_17 (by decide) rfl ?_
    refine tn_aload_n dX0_sameNames_19 rfl 3 rfl ?_
    refine tn_getR (ci := 0) (i := 0) (n := 0) (x := to) dX0_sameNames_20 rfl lay_0 (by decide) fl0_14 ha rfl rfl (hto) ?_
    refine tn_aload_n dX0_sameNames_23 rfl 4 rfl ?_
    obtain ⟨hk32, hl33⟩ : AR T txb 1 9 9 := ar_of (wf_60 hw hk3o) htxb
    have hk32i : IA T txb := by unfold IA; omega
    refine tn_callV (M := m_X0_sameNames) (pc := 24) (ix := 84) (ci := 7) (M' := m_X7_foundSlot) (As := [.ref t]) (rest := []) dX0_sameNames_24 ok_X7_foundSlot im_X7_foundSlot se_X7_foundSlot ml0_84 np_X7_foundSlot rfl rfl hk3o rfl (Nat.le_of_ble_eq_true rfl) (Nat.le_of_ble_eq_true rfl) rfl (k_X7_foundSlot_t (d + 1) (T := T) (σ := σ) (a := to) (p1 := t) (xa := txa) (xb := txb) (y := y) (c := c) hk3o h_t hw (htxa) (htxb) (hy) hg.1 hg.2.1 hg.2.2.1) (fun r34 T36 σ35 gt37 hp => ?_)
    obtain ⟨v41, rfl, rfl, rfl, f38, f39, f40⟩ := hp
    clear gt37
    show Tn _ _ 27 T σ [(4, .int (iI v29)), (3, .ref xq21), (2, .int (iI 1)), (0, .ref a), (1, .ref t)] [.int (iI v41)] _
    refine tn_istore (L' := [(5, .int (iI v41)), (4, .int (iI v29)), (3, .ref xq21), (2, .int (iI 1)), (0, .ref a), (1, .ref t)]) dX0_sameNames_27 (by decide) rfl ?_
    refine tn_aload_n dX0_sameNames_29 rfl 4 rfl ?_
    refine tn_getR (ci := 0) (i := 0) (n := 0) (x := to) dX0_sameNames_30 rfl lay_0 (by decide) fl0_14 ha rfl rfl (hto) ?_
    refine tn_callV (M := m_X0_sameNames) (pc := 33) (ix := 88) (ci := 7) (M' := m_X7_foundNames) (As := []) (rest := []) dX0_sameNames_33 ok_X7_foundNames im_X7_foundNames se_X7_foundNames ml0_88 np_X7_foundNames rfl rfl hk3o rfl (Nat.le_of_ble_eq_true rfl) (Nat.le_of_ble_eq_true rfl) rfl (k_X7_foundNames_j (d + 1) (T := T) (σ := σ) (a := to) (xa := txa) (y := y) hk3o hw (htxa) (hy)) (fun r42 T44 σ43 gt45 hp => ?_)
    obtain ⟨v48, rfl, rfl, rfl, f46, f47⟩ := hp
    clear gt45
    have n49 := snn_of f47 hg.1
    have n49r := hg.2.2.2.1
    rw [← n49] at n49r
    show Tn _ _ 36 T σ [(5, .int (iI v41)), (4, .int (iI v29)), (3, .ref xq21), (2, .int (iI 1)), (0, .ref a), (1, .ref t)] [.int (iI v48)] _
    refine tn_istore (L' := [(6, .int (iI v48)), (5, .int (iI v41)), (4, .int (iI v29)), (3, .ref xq21), (2, .int (iI 1)), (0, .ref a), (1, .ref t)]) dX0_sameNames_36 (by decide) rfl ?_
    refine tn_iconst dX0_sameNames_38 ?_
    refine tn_istore (L' := [(7, .int (iI 0)), (6, .int (iI v48)), (5, .int (iI v41)), (4, .int (iI v29)), (3, .ref xq21), (2, .int (iI 1)), (0, .ref a), (1, .ref t)]) dX0_sameNames_39 (by decide) rfl ?_
    refine tn_sub [6, 7, 5, 4, 3, 2, 1, 0] rfl (l_X0_sameNames_w_41 (d) (T := T) (σ0 := σ) (a := a) (rx1 := t) (rx3 := xq21) (c4 := v29) (c5 := v41) (c6 := v48) (to := to) (pl := pl) (txa := txa) (txb := txb) (y := y) (txe := txe) (pxe := pxe) (c := c) ha h_t hk22o (by omega) (by omega) (by omega) hw (hto) (hpl) (htxa) (htxb) (hy) (htxe) (hpxe) (fun i250 i751 σ52 w55 F56 r57 r58 f59 f60 f61 f62 f63 => ?_) _ (1) (0) σ hw FrC.rfl (by omega) (by omega) CHX.rfl ⟨hg, (by have z9 := JW.pos f18 (Int.natCast_nonneg _); omega), f28, f39, n49⟩ (SNX9.z rfl) (by omega) rfl)
    show Tn _ _ 136 T σ52 [(0, .ref a), (1, .ref t), (2, .int (iI i250)), (3, .ref xq21), (4, .int (iI v29)), (5, .int (iI v41)), (6, .int (iI v48)), (7, .int (iI i751))] [] _
    refine tn_iload_n dX0_sameNames_136 rfl 2 rfl ?_
    exact tn_zret (v := i250) rfl (by omega) dX0_sameNames_137 ⟨_, rfl, rfl, w55, (FrC.rfl.trans (FrC.sub F56 (by decide))), by omega, (CHX.rfl.trans (CHX.sub f59 (by simp) (by simp) (by simp))), by assumption⟩
end
