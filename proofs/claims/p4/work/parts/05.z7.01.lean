set_option maxRecDepth 20000 in
theorem l_X0_together_f_20 (d : Nat) {T : CT} {σ0 : MS} {a : Nat} {rx1 : Nat} {c2 : Int} {post : Option Value → CT → MS → Prop} (h_a : OB T a 0) (h_rx1 : OB T rx1 10) (r_c2 : -2147483648 ≤ c2 ∧ c2 ≤ 20000) (hw0 : WT T σ0) (hx_69 : ∀ (i3 : Int) (i4 : Int) (σ : MS) , (WT T σ) → (FrC T [2, 3, 56, 57, 58, 65, 66, 67, 68, 69, 70, 71, 515] σ0 σ) → (-2147483648 ≤ i3 ∧ i3 ≤ 2147483647) → (0 ≤ i4 ∧ i4 ≤ 20000) → (TB σ a (i4 + 1)) → (PB σ a) → (F57 a σ0 σ) → Tn (d + 7) m_X0_together 69 T σ [(0, .ref a), (1, .ref rx1), (2, .int (iI c2)), (3, .int (iI i3)), (4, .int (iI i4))] [] post) (hx_83 : ∀ (i3 : Int) (i4 : Int) (σ : MS) , (WT T σ) → (FrC T [2, 3, 56, 57, 58, 65, 66, 67, 68, 69, 70, 71, 515] σ0 σ) → (-2147483648 ≤ i3 ∧ i3 ≤ 2147483647) → (0 ≤ i4 ∧ i4 ≤ 20000) → (TB σ a (i4 + 1)) → (PB σ a) → (F57 a σ0 σ) → Tn (d + 7) m_X0_together 83 T σ [(0, .ref a), (1, .ref rx1), (2, .int (iI c2)), (3, .int (iI i3)), (4, .int (iI i4))] [] post) : ∀ (n : Nat) (i3 : Int) (i4 : Int) (σ : MS) , (WT T σ) → (FrC T [2, 3, 56, 57, 58, 65, 66, 67, 68, 69, 70, 71, 515] σ0 σ) → (-2147483648 ≤ i3 ∧ i3 ≤ 2147483647) → (0 ≤ i4 ∧ i4 ≤ 20000) → (TB σ a i4) → (PB σ a) → (F57 a σ0 σ) → (2147483700 - i4).toNat = n → Tn (d + 7) m_X0_together 20 T σ [(0, .ref a), (1, .ref rx1), (2, .int (iI c2)), (3, .int (iI i3)), (4, .int (iI i4))] [] post := by
  intro n
  induction n using Nat.strongRecOn with
  | _ n ih =>
    intro i3 i4 σ hw hF r_i3 r_i4 ht hb hf2 hm
    refine tn_iload dX0_together_20 4 rfl ?_
    refine tn_iload_n dX0_together_22 rfl 2 rfl ?_
    refine tn_icmp_ge (tgt := 83) dX0_together_23 (by decide) ⟨by omega, by omega⟩ ⟨by omega, by omega⟩ (fun h1 => ?_) (fun h1 => ?_)
    · exact tn_sub [0, 1, 2, 3, 4] rfl (hx_83 (i3) (i4) σ hw (FrC.rfl.trans (FrC.sub hF (by decide))) (by omega) (by omega) (ht.up (by omega)) hb hf2)
    · refine tn_aload_n dX0_together_26 rfl 0 rfl ?_
      obtain ⟨x2, hx3, hk4⟩ : ∃ x : Nat, σ0.2.1 0 a = (x : Int) ∧ (T x).1 = 37 := wf_0 hw0 h_a
      have hk4o : OB T x2 7 := ⟨by omega, by rw [hk4]; rfl, by omega⟩
      refine tn_getR (ci := 0) (i := 0) (n := 0) (x := x2) dX0_together_27 rfl lay_0 (by decide) fl0_14 h_a rfl rfl (rc_F hF (Or.inl (by decide)) (by decide) (hx3)) ?_
      refine tn_getI (ci := 7) (i := 1) (n := 56) (t := σ.2.1 56 x2) dX0_together_30 rfl lay_7 (by decide) fl0_33 hk4o rfl rfl (rfl) ?_
      have g6 : ((-2147483648 : Int) ≤ σ.2.1 56 x2 ∧ σ.2.1 56 x2 ≤ 2147483647) := wf_56 hw hk4o
      refine tn_iconst dX0_together_33 ?_
      refine tn_icmp_ne (tgt := 83) dX0_together_34 (by decide) ⟨by omega, by omega⟩ ⟨by decide, by decide⟩ (fun h7 => ?_) (fun h7 => ?_)
      · exact tn_sub [0, 1, 2, 3, 4] rfl (hx_83 (i3) (i4) σ hw (FrC.rfl.trans (FrC.sub hF (by decide))) (by omega) (by omega) (ht.up (by omega)) hb hf2)
      · refine tn_aload_n dX0_together_37 rfl 0 rfl ?_
        refine tn_getR (ci := 0) (i := 0) (n := 0) (x := x2) dX0_together_38 rfl lay_0 (by decide) fl0_14 h_a rfl rfl (rc_F hF (Or.inl (by decide)) (by decide) (hx3)) ?_
        refine tn_callV (M := m_X0_together) (pc := 41) (ix := 36) (ci := 7) (M' := m_X7_step) (As := []) (rest := []) dX0_together_41 ok_X7_step im_X7_step se_X7_step ml0_36 np_X7_step rfl rfl hk4o rfl (Nat.le_of_ble_eq_true rfl) (Nat.le_of_ble_eq_true rfl) rfl (k_X7_step (d + 1) (T := T) (σ := σ) (a := x2) hk4o hk4 hw (by have q9 := ht x2 (rc_F hF (Or.inl (by decide)) (by decide) (hx3)); omega)) (fun r8 T10 σ9 gt11 hp => ?_)
        obtain ⟨v15, rfl, rfl, w16, F17, f12, f13, f14⟩ := hp
        clear gt11
        obtain ⟨x18, hx19, hk20⟩ : ∃ x : Nat, σ0.2.1 1 a = (x : Int) ∧ (T x).1 = 57 := wf_1 hw0 h_a
        have hk20o : OB T x18 7 := ⟨by omega, by rw [hk20]; rfl, by omega⟩
        have ne22 : x2 ≠ x18 := fun e => by rw [e] at hk4; omega
        have hb23 : PB σ9 a := PB.torn hb (rc_F hF (Or.inl (by decide)) (by decide) (hx19)) ne22 f14 F17 (by decide)
        have ht24 : TB σ9 a (i4 + 1) := TB.of (rc_F F17 (Or.inl (by decide)) (by decide) (rc_F hF (Or.inl (by decide)) (by decide) (hx3))) (by have q9 := ht x2 (rc_F hF (Or.inl (by decide)) (by decide) (hx3)); omega)
        have f225 : F57 a σ0 σ9 := F57.fa hf2 (Or.inl hx3) f14
        show Tn _ _ 44 T σ9 [(0, .ref a), (1, .ref rx1), (2, .int (iI c2)), (3, .int (iI i3)), (4, .int (iI i4))] [.int (iI v15)] _
        refine tn_if_eq (tgt := 77) dX0_together_44 (by decide) ⟨by omega, by omega⟩ (fun h26 => ?_) (fun h26 => ?_)
        · refine tn_iinc (q0 := 4) (L' := [(4, .int (iI (i4 + 1))), (0, .ref a), (1, .ref rx1), (2, .int (iI c2)), (3, .int (iI i3))]) dX0_together_77 rfl (by decide) rfl ?_
          refine tn_goto (tgt := 20) dX0_together_80 (by decide) ?_
          exact tn_sub [1, 2, 3, 4, 0] rfl (ih _ (by omega) (i3) (i4 + 1) σ9 w16 ((FrC.rfl.trans (FrC.sub hF (by decide))).trans (FrC.sub F17 (by decide))) (by omega) (by omega) ht24 hb23 f225 rfl)
        · refine tn_aload_n dX0_together_47 rfl 0 rfl ?_
          refine tn_callV (M := m_X0_together) (pc := 48) (ix := 40) (ci := 0) (M' := m_X0_plainLine) (As := []) (rest := []) dX0_together_48 ok_X0_plainLine im_X0_plainLine se_X0_plainLine ml0_40 np_X0_plainLine rfl rfl h_a rfl (Nat.le_of_ble_eq_true rfl) (Nat.le_of_ble_eq_true rfl) rfl (k_X0_plainLine (d) (T := T) (σ := σ9) (a := a) h_a w16 hb23) (fun r27 T29 σ28 gt30 hp => ?_)
          obtain ⟨v34, rfl, rfl, w35, F36, f31, f32, f33⟩ := hp
          clear gt30
          have ht38 : TB σ28 a (i4 + 1) := TB.plain ht24 (rc_F F17 (Or.inl (by decide)) (by decide) (rc_F hF (Or.inl (by decide)) (by decide) (hx3))) (rc_F F17 (Or.inl (by decide)) (by decide) (rc_F hF (Or.inl (by decide)) (by decide) (hx19))) ne22 f33 F36 (by decide)
          have f237 : F57 a σ0 σ28 := F57.fa f225 (Or.inr hx19) (FA.to (rc_F F17 (Or.inl (by decide)) (by decide) (rc_F hF (Or.inl (by decide)) (by decide) (hx19))) f33)
          show Tn _ _ 51 T σ28 [(0, .ref a), (1, .ref rx1), (2, .int (iI c2)), (3, .int (iI i3)), (4, .int (iI i4))] [.int (iI v34)] _
          refine tn_if_eq (tgt := 69) dX0_together_51 (by decide) ⟨by omega, by omega⟩ (fun h39 => ?_) (fun h39 => ?_)
          · exact tn_sub [0, 1, 2, 3, 4] rfl (hx_69 (i3) (i4) σ28 w35 (((FrC.rfl.trans (FrC.sub hF (by decide))).trans (FrC.sub F17 (by decide))).trans (FrC.sub F36 (by decide))) (by omega) (by omega) ht38 f32 f237)
          · refine tn_aload_n dX0_together_54 rfl 0 rfl ?_
            refine tn_callV (M := m_X0_together) (pc := 55) (ix := 43) (ci := 0) (M' := m_X0_samePrints) (As := []) (rest := []) dX0_together_55 ok_X0_samePrints im_X0_samePrints se_X0_samePrints ml0_43 np_X0_samePrints rfl rfl h_a rfl (Nat.le_of_ble_eq_true rfl) (Nat.le_of_ble_eq_true rfl) rfl (k_X0_samePrints (d + 5) (T := T) (σ := σ28) (a := a) h_a w35 ) (fun r40 T42 σ41 gt43 hp => ?_)
            obtain ⟨v45, rfl, rfl, rfl, f44⟩ := hp
            clear gt43
            show Tn _ _ 58 T σ28 [(0, .ref a), (1, .ref rx1), (2, .int (iI c2)), (3, .int (iI i3)), (4, .int (iI i4))] [.int (iI v45)] _
            refine tn_if_eq (tgt := 69) dX0_together_58 (by decide) ⟨by omega, by omega⟩ (fun h46 => ?_) (fun h46 => ?_)
            · exact tn_sub [0, 1, 2, 3, 4] rfl (hx_69 (i3) (i4) σ28 w35 (((FrC.rfl.trans (FrC.sub hF (by decide))).trans (FrC.sub F17 (by decide))).trans (FrC.sub F36 (by decide))) (by omega) (by omega) ht38 f32 f237)
            · refine tn_aload_n dX0_together_61 rfl 0 rfl ?_
              refine tn_aload_n dX0_together_62 rfl 1 rfl ?_
              refine tn_callV (M := m_X0_together) (pc := 63) (ix := 46) (ci := 0) (M' := m_X0_sameStack) (As := [.ref rx1]) (rest := []) dX0_together_63 ok_X0_sameStack im_X0_sameStack se_X0_sameStack ml0_46 np_X0_sameStack rfl rfl h_a rfl (Nat.le_of_ble_eq_true rfl) (Nat.le_of_ble_eq_true rfl) rfl (k_X0_sameStack (d) (T := T) (σ := σ28) (a := a) (p1 := rx1) h_a h_rx1 w35 ) (fun r47 T49 σ48 gt50 hp => ?_)
              obtain ⟨v52, rfl, rfl, w53, F54, f51⟩ := hp
              clear gt50
              have hb55 : PB σ48 a := PB.frc f32 F54 (by decide) (by decide) (by decide) (by decide)
              have ht56 : TB σ48 a (i4 + 1) := TB.frc ht38 F54 (by decide) (by decide)
              have f257 : F57 a σ0 σ48 := F57.frc f237 F54 (by decide)
              show Tn _ _ 66 T σ48 [(0, .ref a), (1, .ref rx1), (2, .int (iI c2)), (3, .int (iI i3)), (4, .int (iI i4))] [.int (iI v52)] _
              refine tn_if_ne (tgt := 74) dX0_together_66 (by decide) ⟨by omega, by omega⟩ (fun h58 => ?_) (fun h58 => ?_)
              · refine tn_iinc (q0 := 3) (L' := [(3, .int (iI (i3 + 1))), (0, .ref a), (1, .ref rx1), (2, .int (iI c2)), (4, .int (iI i4))]) dX0_together_74 rfl (by decide) rfl ?_
                obtain ⟨z59, g60, g60e⟩ := wr_ex (i3 + 1)
                rw [g60e]
                have g60r : -2147483648 ≤ z59 ∧ z59 ≤ 2147483647 := g60
                refine tn_iinc (q0 := 4) (L' := [(4, .int (iI (i4 + 1))), (3, .int (iI z59)), (0, .ref a), (1, .ref rx1), (2, .int (iI c2))]) dX0_together_77 rfl (by decide) rfl ?_
                refine tn_goto (tgt := 20) dX0_together_80 (by decide) ?_
                exact tn_sub [2, 3, 4, 1, 0] rfl (ih _ (by omega) (z59) (i4 + 1) σ48 w53 ((((FrC.rfl.trans (FrC.sub hF (by decide))).trans (FrC.sub F17 (by decide))).trans (FrC.sub F36 (by decide))).trans (FrC.sub F54 (by decide))) (by omega) (by omega) ht56 hb55 f257 rfl)
              · exact tn_sub [0, 1, 2, 3, 4] rfl (hx_69 (i3) (i4) σ48 w53 ((((FrC.rfl.trans (FrC.sub hF (by decide))).trans (FrC.sub F17 (by decide))).trans (FrC.sub F36 (by decide))).trans (FrC.sub F54 (by decide))) (by omega) (by omega) ht56 hb55 f257)
set_option maxRecDepth 20000 in
theorem k_X0_together_f (d : Nat) {T : CT} {σ : MS} {a : Nat} {t : Nat} {n : Int} (ha : OB T a 0) (h_t : OB T t 10) (h_n : -2147483648 ≤ n ∧ n ≤ 2147483647) (hw : WT T σ) (hn : n ≤ 20000) (ht : TB σ a 0) (hb : PB σ a) : Tn (d + 7) m_X0_together 0 T σ [(0, .ref a), (1, .ref t), (2, .int (iI n))] [] (fun ro T2 σ2 => ∃ v : Int, ro = some (.int (iI v)) ∧ T = T2 ∧ WT T2 σ2 ∧ FrC T [2, 3, 4, 56, 57, 58, 65, 66, 67, 68, 69, 70, 71, 515] σ σ2 ∧ (-2147483648 ≤ v ∧ v ≤ 2147483647) ∧ (F57 a σ σ2)) := by
  refine tn_iconst dX0_together_0 ?_
  refine tn_istore_n (L' := [(3, .int (iI 0)), (0, .ref a), (1, .ref t), (2, .int (iI n))]) dX0_together_1 rfl (by decide) rfl ?_
  refine tn_aload_n dX0_together_2 rfl 1 rfl ?_
  refine tn_iconst dX0_together_3 ?_
  refine tn_putV (ci := 0) (i := 2) (n := 2) (r := false) (v := 0) tyX0 tyX0_ok nmX0 dX0_together_4 rfl lay_0 (by decide) fl0_23 rfl (tyX0_ok 2 (by decide)) rfl rfl rfl ha rfl rfl ?_
  refine tn_aload_n dX0_together_7 rfl 1 rfl ?_
  refine tn_iconst dX0_together_8 ?_
  refine tn_putV (ci := 0) (i := 3) (n := 3) (r := false) (v := 0) tyX0 tyX0_ok nmX0 dX0_together_9 rfl lay_0 (by decide) fl0_27 rfl (tyX0_ok 3 (by decide)) rfl rfl rfl ha rfl rfl ?_
  refine tn_aload_n dX0_together_12 rfl 1 rfl ?_
  refine tn_iconst dX0_together_13 ?_
  refine tn_putV (ci := 0) (i := 4) (n := 4) (r := false) (v := 0) tyX0 tyX0_ok nmX0 dX0_together_14 rfl lay_0 (by decide) fl0_30 rfl (tyX0_ok 4 (by decide)) rfl rfl rfl ha rfl rfl ?_
  refine tn_iconst dX0_together_17 ?_
  refine tn_istore (L' := [(4, .int (iI 0)), (3, .int (iI 0)), (0, .ref a), (1, .ref t), (2, .int (iI n))]) dX0_together_18 (by decide) rfl ?_
  refine tn_sub [2, 3, 4, 1, 0] rfl (l_X0_together_f_20 (d) (T := T) (σ0 := (sA 4 a (0) (sA 3 a (0) (sA 2 a (0) σ)))) (a := a) (rx1 := t) (c2 := n) ha h_t (by omega) (((hw.put (by decide) (by decide) (fo_2 (by omega))).put (by decide) (by decide) (fo_3 (by omega))).put (by decide) (by decide) (fo_4 (by omega))) (fun i31 i42 σ3 w6 F7 r8 r9 f10 f11 f12 => ?_) (fun i313 i414 σ15 w18 F19 r20 r21 f22 f23 f24 => ?_) _ (0) (0) (sA 4 a (0) (sA 3 a (0) (sA 2 a (0) σ))) (((hw.put (by decide) (by decide) (fo_2 (by omega))).put (by decide) (by decide) (fo_3 (by omega))).put (by decide) (by decide) (fo_4 (by omega))) FrC.rfl (by omega) (by omega) (TB.frc ht (show FrC T [2, 3, 4] σ (sA 4 a (0) (sA 3 a (0) (sA 2 a (0) σ))) from (((FrC.rfl.put (by decide) (by decide)).put (by decide) (by decide)).put (by decide) (by decide))) (by decide) (by decide) ) (PB.frc hb (show FrC T [2, 3, 4] σ (sA 4 a (0) (sA 3 a (0) (sA 2 a (0) σ))) from (((FrC.rfl.put (by decide) (by decide)).put (by decide) (by decide)).put (by decide) (by decide))) (by decide) (by decide) (by decide) (by decide) ) F57.rfl rfl)
  · have f225 : F57 a σ σ3 := F57.pre (show FrC T [2, 3, 4] σ _ from (((FrC.rfl.put (by decide) (by decide)).put (by decide) (by decide)).put (by decide) (by decide))) (by decide) (by decide) (by decide) f12
    show Tn _ _ 69 T σ3 [(0, .ref a), (1, .ref t), (2, .int (iI n)), (3, .int (iI i31)), (4, .int (iI i42))] [] _
    refine tn_bipush dX0_together_69 (by decide) ?_
    refine tn_iload_n dX0_together_71 rfl 3 rfl ?_
    refine tn_isub dX0_together_72 ?_
    refine tn_any (fun z26 g27 => ?_)
    have g27r : -2147483648 ≤ z26 ∧ z26 ≤ 2147483647 := g27
    exact tn_iret rfl dX0_together_73 ⟨_, rfl, rfl, w6, ((((FrC.rfl.put (by decide) (by decide)).put (by decide) (by decide)).put (by decide) (by decide)).trans (FrC.sub F7 (by decide))), by omega, f225⟩
  · have f228 : F57 a σ σ15 := F57.pre (show FrC T [2, 3, 4] σ _ from (((FrC.rfl.put (by decide) (by decide)).put (by decide) (by decide)).put (by decide) (by decide))) (by decide) (by decide) (by decide) f24
    show Tn _ _ 83 T σ15 [(0, .ref a), (1, .ref t), (2, .int (iI n)), (3, .int (iI i313)), (4, .int (iI i414))] [] _
    refine tn_aload_n dX0_together_83 rfl 0 rfl ?_
    obtain ⟨x29, hx30, hk31⟩ : ∃ x : Nat, σ.2.1 0 a = (x : Int) ∧ (T x).1 = 37 := wf_0 hw ha
    have hk31o : OB T x29 7 := ⟨by omega, by rw [hk31]; rfl, by omega⟩
    refine tn_getR (ci := 0) (i := 0) (n := 0) (x := x29) dX0_together_84 rfl lay_0 (by decide) fl0_14 ha rfl rfl (rc_F F19 (Or.inl (by decide)) (by decide) (rc_o (by decide) (rc_o (by decide) (rc_o (by decide) (hx30))))) ?_
    refine tn_getI (ci := 7) (i := 1) (n := 56) (t := σ15.2.1 56 x29) dX0_together_87 rfl lay_7 (by decide) fl0_33 hk31o rfl rfl (rfl) ?_
    have g33 : ((-2147483648 : Int) ≤ σ15.2.1 56 x29 ∧ σ15.2.1 56 x29 ≤ 2147483647) := wf_56 w18 hk31o
    refine tn_iconst dX0_together_90 ?_
    refine tn_icmp_ne (tgt := 96) dX0_together_91 (by decide) ⟨by omega, by omega⟩ ⟨by decide, by decide⟩ (fun h34 => ?_) (fun h34 => ?_)
    · refine tn_aload_n dX0_together_96 rfl 0 rfl ?_
      refine tn_callV (M := m_X0_together) (pc := 97) (ix := 40) (ci := 0) (M' := m_X0_plainLine) (As := []) (rest := []) dX0_together_97 ok_X0_plainLine im_X0_plainLine se_X0_plainLine ml0_40 np_X0_plainLine rfl rfl ha rfl (Nat.le_of_ble_eq_true rfl) (Nat.le_of_ble_eq_true rfl) rfl (k_X0_plainLine (d) (T := T) (σ := σ15) (a := a) ha w18 f23) (fun r35 T37 σ36 gt38 hp => ?_)
      obtain ⟨v42, rfl, rfl, w43, F44, f39, f40, f41⟩ := hp
      clear gt38
      obtain ⟨x45, hx46, hk47⟩ : ∃ x : Nat, σ.2.1 1 a = (x : Int) ∧ (T x).1 = 57 := wf_1 hw ha
      have hk47o : OB T x45 7 := ⟨by omega, by rw [hk47]; rfl, by omega⟩
      have f249 : F57 a σ σ36 := F57.fa f228 (Or.inr hx46) (FA.to (rc_F F19 (Or.inl (by decide)) (by decide) (rc_o (by decide) (rc_o (by decide) (rc_o (by decide) (hx46))))) f41)
      show Tn _ _ 100 T σ36 [(0, .ref a), (1, .ref t), (2, .int (iI n)), (3, .int (iI i313)), (4, .int (iI i414))] [.int (iI v42)] _
      refine tn_if_ne (tgt := 144) dX0_together_100 (by decide) ⟨by omega, by omega⟩ (fun h50 => ?_) (fun h50 => ?_)
      · refine tn_bipush dX0_together_144 (by decide) ?_
        refine tn_iload_n dX0_together_146 rfl 3 rfl ?_
        refine tn_isub dX0_together_147 ?_
        refine tn_any (fun z51 g52 => ?_)
        have g52r : -2147483648 ≤ z51 ∧ z51 ≤ 2147483647 := g52
        exact tn_iret rfl dX0_together_148 ⟨_, rfl, rfl, w43, (((((FrC.rfl.put (by decide) (by decide)).put (by decide) (by decide)).put (by decide) (by decide)).trans (FrC.sub F19 (by decide))).trans (FrC.sub F44 (by decide))), by omega, f249⟩
      · refine tn_aload_n dX0_together_103 rfl 0 rfl ?_
        refine tn_getR (ci := 0) (i := 1) (n := 1) (x := x45) dX0_together_104 rfl lay_0 (by decide) fl0_20 ha rfl rfl (rc_F F44 (Or.inl (by decide)) (by decide) (rc_F F19 (Or.inl (by decide)) (by decide) (rc_o (by decide) (rc_o (by decide) (rc_o (by decide) (hx46)))))) ?_
        refine tn_getI (ci := 7) (i := 1) (n := 56) (t := σ36.2.1 56 x45) dX0_together_107 rfl lay_7 (by decide) fl0_33 hk47o rfl rfl (rfl) ?_
        have g53 : ((-2147483648 : Int) ≤ σ36.2.1 56 x45 ∧ σ36.2.1 56 x45 ≤ 2147483647) := wf_56 w43 hk47o
        refine tn_aload_n dX0_together_110 rfl 0 rfl ?_
        refine tn_getR (ci := 0) (i := 0) (n := 0) (x := x29) dX0_together_111 rfl lay_0 (by decide) fl0_14 ha rfl rfl (rc_F F44 (Or.inl (by decide)) (by decide) (rc_F F19 (Or.inl (by decide)) (by decide) (rc_o (by decide) (rc_o (by decide) (rc_o (by decide) (hx30)))))) ?_
        refine tn_getI (ci := 7) (i := 1) (n := 56) (t := σ36.2.1 56 x29) dX0_together_114 rfl lay_7 (by decide) fl0_33 hk31o rfl rfl (rfl) ?_
        have g54 : ((-2147483648 : Int) ≤ σ36.2.1 56 x29 ∧ σ36.2.1 56 x29 ≤ 2147483647) := wf_56 w43 hk31o
        refine tn_icmp_ne (tgt := 144) dX0_together_117 (by decide) ⟨by omega, by omega⟩ ⟨by omega, by omega⟩ (fun h55 => ?_) (fun h55 => ?_)
        · refine tn_bipush dX0_together_144 (by decide) ?_
          refine tn_iload_n dX0_together_146 rfl 3 rfl ?_
          refine tn_isub dX0_together_147 ?_
          refine tn_any (fun z56 g57 => ?_)
          have g57r : -2147483648 ≤ z56 ∧ z56 ≤ 2147483647 := g57
          exact tn_iret rfl dX0_together_148 ⟨_, rfl, rfl, w43, (((((FrC.rfl.put (by decide) (by decide)).put (by decide) (by decide)).put (by decide) (by decide)).trans (FrC.sub F19 (by decide))).trans (FrC.sub F44 (by decide))), by omega, f249⟩
        · refine tn_aload_n dX0_together_120 rfl 0 rfl ?_
          refine tn_callV (M := m_X0_together) (pc := 121) (ix := 43) (ci := 0) (M' := m_X0_samePrints) (As := []) (rest := []) dX0_together_121 ok_X0_samePrints im_X0_samePrints se_X0_samePrints ml0_43 np_X0_samePrints rfl rfl ha rfl (Nat.le_of_ble_eq_true rfl) (Nat.le_of_ble_eq_true rfl) rfl (k_X0_samePrints (d + 5) (T := T) (σ := σ36) (a := a) ha w43 ) (fun r58 T60 σ59 gt61 hp => ?_)
          obtain ⟨v63, rfl, rfl, rfl, f62⟩ := hp
          clear gt61
          show Tn _ _ 124 T σ36 [(0, .ref a), (1, .ref t), (2, .int (iI n)), (3, .int (iI i313)), (4, .int (iI i414))] [.int (iI v63)] _
          refine tn_if_eq (tgt := 144) dX0_together_124 (by decide) ⟨by omega, by omega⟩ (fun h64 => ?_) (fun h64 => ?_)
          · refine tn_bipush dX0_together_144 (by decide) ?_
            refine tn_iload_n dX0_together_146 rfl 3 rfl ?_
            refine tn_isub dX0_together_147 ?_
            refine tn_any (fun z65 g66 => ?_)
            have g66r : -2147483648 ≤ z65 ∧ z65 ≤ 2147483647 := g66
            exact tn_iret rfl dX0_together_148 ⟨_, rfl, rfl, w43, (((((FrC.rfl.put (by decide) (by decide)).put (by decide) (by decide)).put (by decide) (by decide)).trans (FrC.sub F19 (by decide))).trans (FrC.sub F44 (by decide))), by omega, f249⟩
          · refine tn_aload_n dX0_together_127 rfl 0 rfl ?_
            refine tn_getR (ci := 0) (i := 1) (n := 1) (x := x45) dX0_together_128 rfl lay_0 (by decide) fl0_20 ha rfl rfl (rc_F F44 (Or.inl (by decide)) (by decide) (rc_F F19 (Or.inl (by decide)) (by decide) (rc_o (by decide) (rc_o (by decide) (rc_o (by decide) (hx46)))))) ?_
            refine tn_getI (ci := 7) (i := 13) (n := 68) (t := σ36.2.1 68 x45) dX0_together_131 rfl lay_7 (by decide) fl0_50 hk47o rfl rfl (rfl) ?_
            have g67 : ((-2147483648 : Int) ≤ σ36.2.1 68 x45 ∧ σ36.2.1 68 x45 ≤ 2147483647) := wf_68 w43 hk47o
            refine tn_aload_n dX0_together_134 rfl 0 rfl ?_
            refine tn_getR (ci := 0) (i := 0) (n := 0) (x := x29) dX0_together_135 rfl lay_0 (by decide) fl0_14 ha rfl rfl (rc_F F44 (Or.inl (by decide)) (by decide) (rc_F F19 (Or.inl (by decide)) (by decide) (rc_o (by decide) (rc_o (by decide) (rc_o (by decide) (hx30)))))) ?_
            refine tn_getI (ci := 7) (i := 13) (n := 68) (t := σ36.2.1 68 x29) dX0_together_138 rfl lay_7 (by decide) fl0_50 hk31o rfl rfl (rfl) ?_
            have g68 : ((-2147483648 : Int) ≤ σ36.2.1 68 x29 ∧ σ36.2.1 68 x29 ≤ 2147483647) := wf_68 w43 hk31o
            refine tn_icmp_eq (tgt := 149) dX0_together_141 (by decide) ⟨by omega, by omega⟩ ⟨by omega, by omega⟩ (fun h69 => ?_) (fun h69 => ?_)
            · refine tn_aload_n dX0_together_149 rfl 0 rfl ?_
              refine tn_aload_n dX0_together_150 rfl 0 rfl ?_
              refine tn_getR (ci := 0) (i := 0) (n := 0) (x := x29) dX0_together_151 rfl lay_0 (by decide) fl0_14 ha rfl rfl (rc_F F44 (Or.inl (by decide)) (by decide) (rc_F F19 (Or.inl (by decide)) (by decide) (rc_o (by decide) (rc_o (by decide) (rc_o (by decide) (hx30)))))) ?_
              refine tn_getI (ci := 7) (i := 1) (n := 56) (t := σ36.2.1 56 x29) dX0_together_154 rfl lay_7 (by decide) fl0_33 hk31o rfl rfl (rfl) ?_
              refine tn_iconst dX0_together_157 ?_
              refine tn_icmp_ne (tgt := 165) dX0_together_158 (by decide) ⟨by omega, by omega⟩ ⟨by decide, by decide⟩ (fun h70 => ?_) (fun h70 => ?_)
              · refine tn_iconst dX0_together_165 ?_
                refine tn_putV (ci := 0) (i := 4) (n := 4) (r := false) (v := 2) tyX0 tyX0_ok nmX0 dX0_together_166 rfl lay_0 (by decide) fl0_30 rfl (tyX0_ok 4 (by decide)) rfl rfl rfl ha rfl rfl ?_
                refine tn_iload_n dX0_together_169 rfl 3 rfl ?_
                exact tn_iret rfl dX0_together_170 ⟨_, rfl, rfl, (w43.put (by decide) (by decide) (fo_4 (by omega))), ((((((FrC.rfl.put (by decide) (by decide)).put (by decide) (by decide)).put (by decide) (by decide)).trans (FrC.sub F19 (by decide))).trans (FrC.sub F44 (by decide))).put (by decide) (by decide)), by omega, (f249.put (by decide))⟩
              · refine tn_iconst dX0_together_161 ?_
                refine tn_goto (tgt := 166) dX0_together_162 (by decide) ?_
                refine tn_putV (ci := 0) (i := 4) (n := 4) (r := false) (v := 1) tyX0 tyX0_ok nmX0 dX0_together_166 rfl lay_0 (by decide) fl0_30 rfl (tyX0_ok 4 (by decide)) rfl rfl rfl ha rfl rfl ?_
                refine tn_iload_n dX0_together_169 rfl 3 rfl ?_
                exact tn_iret rfl dX0_together_170 ⟨_, rfl, rfl, (w43.put (by decide) (by decide) (fo_4 (by omega))), ((((((FrC.rfl.put (by decide) (by decide)).put (by decide) (by decide)).put (by decide) (by decide)).trans (FrC.sub F19 (by decide))).trans (FrC.sub F44 (by decide))).put (by decide) (by decide)), by omega, (f249.put (by decide))⟩
            · refine tn_bipush dX0_together_144 (by decide) ?_
              refine tn_iload_n dX0_together_146 rfl 3 rfl ?_
              refine tn_isub dX0_together_147 ?_
              refine tn_any (fun z71 g72 => ?_)
              have g72r : -2147483648 ≤ z71 ∧ z71 ≤ 2147483647 := g72
              exact tn_iret rfl dX0_together_148 ⟨_, rfl, rfl, w43, (((((FrC.rfl.put (by decide) (by decide)).put (by decide) (by decide)).put (by decide) (by decide)).trans (FrC.sub F19 (by decide))).trans (FrC.sub F44 (by decide))), by omega, f249⟩
    · refine tn_iload_n dX0_together_94 rfl 3 rfl ?_
      exact tn_iret rfl dX0_together_95 ⟨_, rfl, rfl, w18, ((((FrC.rfl.put (by decide) (by decide)).put (by decide) (by decide)).put (by decide) (by decide)).trans (FrC.sub F19 (by decide))), by omega, f228⟩
