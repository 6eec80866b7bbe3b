theorem cd_X4_melt : Cond.code yX4_melt cX4_melt 8 (some .int) ∈ pWW := pw5 (List.mem_of_getElem? (i := 134) rfl) rfl
abbrev m_X4_melt : MT := (yX4_melt, cX4_melt, 8, (some .int))
theorem ok_X4_melt : pOk m_X4_melt := ⟨⟨cd_X4_melt, ini_4⟩, by decide +kernel, ⟨by decide +kernel, by decide +kernel⟩, Nat.le_of_ble_eq_true rfl⟩
theorem np_X4_melt : (parseMethodDescriptor yX4_melt.desc).map (fun d => d.parameters.length) = some 4 := by decide +kernel
theorem im_X4_melt : Cond.instanceMethod yX4_melt ∈ pWW := pw5 (List.mem_of_getElem? (i := 132) rfl) rfl
theorem se_X4_melt : Cond.selects RX4 yX4_melt yX4_melt ∈ pWW := pw5 (List.mem_of_getElem? (i := 133) rfl) rfl
theorem ml4_36 : Cond.methodLink RX4 36 yX4_isSmall ∈ pWW := pw5 (List.mem_of_getElem? (i := 136) rfl) rfl
theorem ml4_40 : Cond.methodLink RX4 40 yX4_meltAt ∈ pWW := pw5 (List.mem_of_getElem? (i := 141) rfl) rfl
theorem dX4_melt_0 : decode cX4_melt 0 = .ok (.aload_n 0, 1) := by decide +kernel
theorem dX4_melt_1 : decode cX4_melt 1 = .ok (.aload 4, 2) := by decide +kernel
theorem dX4_melt_3 : decode cX4_melt 3 = .ok (.putfield 19, 3) := by decide +kernel
theorem dX4_melt_6 : decode cX4_melt 6 = .ok (.iconst 0, 1) := by decide +kernel
theorem dX4_melt_7 : decode cX4_melt 7 = .ok (.istore 5, 2) := by decide +kernel
theorem dX4_melt_9 : decode cX4_melt 9 = .ok (.iconst 0, 1) := by decide +kernel
theorem dX4_melt_10 : decode cX4_melt 10 = .ok (.istore 6, 2) := by decide +kernel
theorem dX4_melt_12 : decode cX4_melt 12 = .ok (.iload 6, 2) := by decide +kernel
theorem dX4_melt_14 : decode cX4_melt 14 = .ok (.aload_n 0, 1) := by decide +kernel
theorem dX4_melt_15 : decode cX4_melt 15 = .ok (.getfield 19, 3) := by decide +kernel
theorem dX4_melt_18 : decode cX4_melt 18 = .ok (.getfield 23, 3) := by decide +kernel
theorem dX4_melt_21 : decode cX4_melt 21 = .ok (.if_icmp .ge 98, 3) := by decide +kernel
theorem dX4_melt_24 : decode cX4_melt 24 = .ok (.aload_n 0, 1) := by decide +kernel
theorem dX4_melt_25 : decode cX4_melt 25 = .ok (.getfield 19, 3) := by decide +kernel
theorem dX4_melt_28 : decode cX4_melt 28 = .ok (.iload 6, 2) := by decide +kernel
theorem dX4_melt_30 : decode cX4_melt 30 = .ok (.iconst 0, 1) := by decide +kernel
theorem dX4_melt_31 : decode cX4_melt 31 = .ok (.invokevirtual 29, 3) := by decide +kernel
theorem dX4_melt_34 : decode cX4_melt 34 = .ok (.bipush 10, 2) := by decide +kernel
theorem dX4_melt_36 : decode cX4_melt 36 = .ok (.if_icmp .ne 16, 3) := by decide +kernel
theorem dX4_melt_52 : decode cX4_melt 52 = .ok (.iconst (-1), 1) := by decide +kernel
theorem dX4_melt_53 : decode cX4_melt 53 = .ok (.istore 7, 2) := by decide +kernel
theorem dX4_melt_55 : decode cX4_melt 55 = .ok (.iload 7, 2) := by decide +kernel
theorem dX4_melt_57 : decode cX4_melt 57 = .ok (.ifCond .lt 56, 3) := by decide +kernel
theorem dX4_melt_113 : decode cX4_melt 113 = .ok (.iinc 6 1, 3) := by decide +kernel
theorem dX4_melt_116 : decode cX4_melt 116 = .ok (.goto (-104), 3) := by decide +kernel
theorem dX4_melt_39 : decode cX4_melt 39 = .ok (.aload_n 0, 1) := by decide +kernel
theorem dX4_melt_40 : decode cX4_melt 40 = .ok (.getfield 19, 3) := by decide +kernel
theorem dX4_melt_43 : decode cX4_melt 43 = .ok (.iload 6, 2) := by decide +kernel
theorem dX4_melt_45 : decode cX4_melt 45 = .ok (.iconst 2, 1) := by decide +kernel
theorem dX4_melt_46 : decode cX4_melt 46 = .ok (.invokevirtual 29, 3) := by decide +kernel
theorem dX4_melt_49 : decode cX4_melt 49 = .ok (.goto 4, 3) := by decide +kernel
theorem dX4_melt_60 : decode cX4_melt 60 = .ok (.iload 7, 2) := by decide +kernel
theorem dX4_melt_62 : decode cX4_melt 62 = .ok (.iload_n 2, 1) := by decide +kernel
theorem dX4_melt_63 : decode cX4_melt 63 = .ok (.if_icmp .ge 50, 3) := by decide +kernel
theorem dX4_melt_66 : decode cX4_melt 66 = .ok (.iload 7, 2) := by decide +kernel
theorem dX4_melt_68 : decode cX4_melt 68 = .ok (.aload_n 1, 1) := by decide +kernel
theorem dX4_melt_69 : decode cX4_melt 69 = .ok (.arraylength, 1) := by decide +kernel
theorem dX4_melt_70 : decode cX4_melt 70 = .ok (.if_icmp .ge 43, 3) := by decide +kernel
theorem dX4_melt_73 : decode cX4_melt 73 = .ok (.iload 7, 2) := by decide +kernel
theorem dX4_melt_75 : decode cX4_melt 75 = .ok (.iload_n 3, 1) := by decide +kernel
theorem dX4_melt_76 : decode cX4_melt 76 = .ok (.if_icmp .eq 37, 3) := by decide +kernel
theorem dX4_melt_79 : decode cX4_melt 79 = .ok (.aload_n 1, 1) := by decide +kernel
theorem dX4_melt_80 : decode cX4_melt 80 = .ok (.iload 7, 2) := by decide +kernel
theorem dX4_melt_82 : decode cX4_melt 82 = .ok (.aaload, 1) := by decide +kernel
theorem dX4_melt_83 : decode cX4_melt 83 = .ok (.ifnull 30, 3) := by decide +kernel
theorem dX4_melt_86 : decode cX4_melt 86 = .ok (.aload_n 0, 1) := by decide +kernel
theorem dX4_melt_87 : decode cX4_melt 87 = .ok (.aload_n 1, 1) := by decide +kernel
theorem dX4_melt_88 : decode cX4_melt 88 = .ok (.iload 7, 2) := by decide +kernel
theorem dX4_melt_90 : decode cX4_melt 90 = .ok (.aaload, 1) := by decide +kernel
theorem dX4_melt_91 : decode cX4_melt 91 = .ok (.putfield 33, 3) := by decide +kernel
theorem dX4_melt_94 : decode cX4_melt 94 = .ok (.aload_n 0, 1) := by decide +kernel
theorem dX4_melt_95 : decode cX4_melt 95 = .ok (.invokevirtual 36, 3) := by decide +kernel
theorem dX4_melt_98 : decode cX4_melt 98 = .ok (.ifCond .eq 15, 3) := by decide +kernel
theorem dX4_melt_101 : decode cX4_melt 101 = .ok (.aload_n 0, 1) := by decide +kernel
theorem dX4_melt_102 : decode cX4_melt 102 = .ok (.iload 6, 2) := by decide +kernel
theorem dX4_melt_104 : decode cX4_melt 104 = .ok (.invokevirtual 40, 3) := by decide +kernel
theorem dX4_melt_107 : decode cX4_melt 107 = .ok (.ifCond .eq 6, 3) := by decide +kernel
theorem dX4_melt_110 : decode cX4_melt 110 = .ok (.iinc 5 1, 3) := by decide +kernel
set_option maxRecDepth 20000 in
theorem l_X4_melt_12 (d : Nat) {T0 : CT} {σ0 : MS} {a : Nat} {rx1 : Nat} {c2 : Int} {c3 : Int} {post : Option Value → CT → MS → Prop} (r_c2 : -2147483648 ≤ c2 ∧ c2 ≤ 2147483647) (r_c3 : -2147483648 ≤ c3 ∧ c3 ≤ 2147483647) (hw0 : WT T0 σ0) (hh : 0 ≤ σ0.2.1 25 a) (hx_119 : ∀ (T : CT) (i5 : Int) (i6 : Int) (σ : MS) , (GT T0 T) → (WT T σ) → (FrC T0 [5, 6, 10, 26, 27, 28, 29, 30, 31, 32] σ0 σ) → (OB T a 4) → ((T rx1).1 = 4 ∨ (T rx1).1 = 5) → ((T rx1).2 ≤ 1000000) → ((T rx1).1 = 5) → (-2147483648 ≤ i5 ∧ i5 ≤ 2147483647) → (0 ≤ i6 ∧ i6 ≤ 2147483647) → Tn (d + 6) m_X4_melt 119 T σ [(0, .ref a), (1, .ref rx1), (2, .int (iI c2)), (3, .int (iI c3)), (5, .int (iI i5)), (6, .int (iI i6))] [] post) : ∀ (n : Nat) (T : CT) (i5 : Int) (i6 : Int) (σ : MS) , (GT T0 T) → (WT T σ) → (FrC T0 [5, 6, 10, 26, 27, 28, 29, 30, 31, 32] σ0 σ) → (OB T a 4) → ((T rx1).1 = 4 ∨ (T rx1).1 = 5) → ((T rx1).2 ≤ 1000000) → ((T rx1).1 = 5) → (-2147483648 ≤ i5 ∧ i5 ≤ 2147483647) → (0 ≤ i6 ∧ i6 ≤ 2147483647) → (2147483700 - i6).toNat = n → Tn (d + 6) m_X4_melt 12 T σ [(0, .ref a), (1, .ref rx1), (2, .int (iI c2)), (3, .int (iI c3)), (5, .int (iI i5)), (6, .int (iI i6))] [] post := by
  intro n
  induction n using Nat.strongRecOn with
  | _ n ih =>
    intro T i5 i6 σ hG hw hF h_a h_rx1 l_rx1 t_rx1 r_i5 r_i6 hm
    refine tn_iload dX4_melt_12 5 rfl ?_
    refine tn_aload_n dX4_melt_14 rfl 0 rfl ?_
    have nn8 : 0 ≤ σ.2.1 25 a := (by rw [show σ.2.1 25 a = σ0.2.1 25 a from rc_F hF (Or.inl (by decide)) (by decide) (rfl)]; omega)
    obtain ⟨x5, hx6, hk7⟩ := (wf_25 hw h_a).resolve_left (by omega)
    have hk7o : OB T x5 1 := ⟨by omega, by rw [hk7]; rfl, by omega⟩
    refine tn_getR (ci := 4) (i := 2) (n := 25) (x := x5) dX4_melt_15 rfl lay_4 (by decide) fl4_19 h_a rfl rfl (hx6) ?_
    refine tn_getI (ci := 1) (i := 1) (n := 6) (t := σ.2.1 6 x5) dX4_melt_18 rfl lay_1 (by decide) fl4_23 hk7o rfl rfl (rfl) ?_
    have g9 : ((0 : Int) ≤ σ.2.1 6 x5 ∧ σ.2.1 6 x5 ≤ 5000) ∧ ((T x5).1 = 50 → σ.2.1 6 x5 ≤ 200) := wf_6 hw hk7o
    have g9x := g9.2
    replace g9 := g9.1
    have g9x := g9x hk7
    refine tn_icmp_ge (tgt := 119) dX4_melt_21 (by decide) ⟨by omega, by omega⟩ ⟨by omega, by omega⟩ (fun h10 => ?_) (fun h10 => ?_)
    · exact tn_sub [0, 1, 2, 3, 4, 5] rfl (hx_119 T (i5) (i6) σ hG hw (FrC.rfl.trans (FrC.sub hF (by decide))) h_a h_rx1 (by omega) t_rx1 (by omega) (by omega))
    · refine tn_aload_n dX4_melt_24 rfl 0 rfl ?_
      refine tn_getR (ci := 4) (i := 2) (n := 25) (x := x5) dX4_melt_25 rfl lay_4 (by decide) fl4_19 h_a rfl rfl (hx6) ?_
      refine tn_iload dX4_melt_28 5 rfl ?_
      refine tn_iconst dX4_melt_30 ?_
      refine tn_callV (M := m_X4_melt) (pc := 31) (ix := 29) (ci := 1) (M' := m_X1_get) (As := [.int (iI i6), .int (iI 0)]) (rest := []) dX4_melt_31 ok_X1_get im_X1_get se_X1_get ml4_29 np_X1_get rfl rfl hk7o rfl (Nat.le_of_ble_eq_true rfl) (Nat.le_of_ble_eq_true rfl) rfl (k_X1_get (d + 4) (T := T) (σ := σ) (a := x5) (k := i6) (c := 0) hk7o (by omega) (by decide) hw (by omega)) (fun r11 T13 σ12 gt14 hp => ?_)
      obtain ⟨v16, rfl, rfl, rfl, f15⟩ := hp
      clear gt14
      show Tn _ _ 34 T σ [(0, .ref a), (1, .ref rx1), (2, .int (iI c2)), (3, .int (iI c3)), (5, .int (iI i5)), (6, .int (iI i6))] [.int (iI v16)] _
      refine tn_bipush dX4_melt_34 (by decide) ?_
      refine tn_icmp_ne (tgt := 52) dX4_melt_36 (by decide) ⟨by omega, by omega⟩ ⟨by decide, by decide⟩ (fun h17 => ?_) (fun h17 => ?_)
      · refine tn_iconst dX4_melt_52 ?_
        refine tn_istore (L' := [(7, .int (iI (-1))), (0, .ref a), (1, .ref rx1), (2, .int (iI c2)), (3, .int (iI c3)), (5, .int (iI i5)), (6, .int (iI i6))]) dX4_melt_53 (by decide) rfl ?_
        refine tn_iload dX4_melt_55 0 rfl ?_
        refine tn_if_lt (tgt := 113) dX4_melt_57 (by decide) ⟨by decide, by decide⟩ (fun _ => ?_) (fun h => absurd h (by decide))
        refine tn_iinc (q0 := 6) (L' := [(6, .int (iI (i6 + 1))), (7, .int (iI (-1))), (0, .ref a), (1, .ref rx1), (2, .int (iI c2)), (3, .int (iI c3)), (5, .int (iI i5))]) dX4_melt_113 rfl (by decide) rfl ?_
        refine tn_goto (tgt := 12) dX4_melt_116 (by decide) ?_
        exact tn_sub [2, 3, 4, 5, 6, 0] rfl (ih _ (by omega) T (i5) (i6 + 1) σ hG hw (FrC.rfl.trans (FrC.sub hF (by decide))) h_a h_rx1 (by omega) t_rx1 (by omega) (by omega) rfl)
      · refine tn_aload_n dX4_melt_39 rfl 0 rfl ?_
        refine tn_getR (ci := 4) (i := 2) (n := 25) (x := x5) dX4_melt_40 rfl lay_4 (by decide) fl4_19 h_a rfl rfl (hx6) ?_
        refine tn_iload dX4_melt_43 5 rfl ?_
        refine tn_iconst dX4_melt_45 ?_
        refine tn_callV (M := m_X4_melt) (pc := 46) (ix := 29) (ci := 1) (M' := m_X1_get) (As := [.int (iI i6), .int (iI 2)]) (rest := []) dX4_melt_46 ok_X1_get im_X1_get se_X1_get ml4_29 np_X1_get rfl rfl hk7o rfl (Nat.le_of_ble_eq_true rfl) (Nat.le_of_ble_eq_true rfl) rfl (k_X1_get (d + 4) (T := T) (σ := σ) (a := x5) (k := i6) (c := 2) hk7o (by omega) (by decide) hw (by omega)) (fun r19 T21 σ20 gt22 hp => ?_)
        obtain ⟨v24, rfl, rfl, rfl, f23⟩ := hp
        clear gt22
        show Tn _ _ 49 T σ [(0, .ref a), (1, .ref rx1), (2, .int (iI c2)), (3, .int (iI c3)), (5, .int (iI i5)), (6, .int (iI i6))] [.int (iI v24)] _
        refine tn_goto (tgt := 53) dX4_melt_49 (by decide) ?_
        refine tn_istore (L' := [(7, .int (iI v24)), (0, .ref a), (1, .ref rx1), (2, .int (iI c2)), (3, .int (iI c3)), (5, .int (iI i5)), (6, .int (iI i6))]) dX4_melt_53 (by decide) rfl ?_
        refine tn_iload dX4_melt_55 0 rfl ?_
        refine tn_if_lt (tgt := 113) dX4_melt_57 (by decide) ⟨by omega, by omega⟩ (fun h25 => ?_) (fun h25 => ?_)
        · refine tn_iinc (q0 := 6) (L' := [(6, .int (iI (i6 + 1))), (7, .int (iI v24)), (0, .ref a), (1, .ref rx1), (2, .int (iI c2)), (3, .int (iI c3)), (5, .int (iI i5))]) dX4_melt_113 rfl (by decide) rfl ?_
          refine tn_goto (tgt := 12) dX4_melt_116 (by decide) ?_
          exact tn_sub [2, 3, 4, 5, 6, 0] rfl (ih _ (by omega) T (i5) (i6 + 1) σ hG hw (FrC.rfl.trans (FrC.sub hF (by decide))) h_a h_rx1 (by omega) t_rx1 (by omega) (by omega) rfl)
        · refine tn_iload dX4_melt_60 0 rfl ?_
          refine tn_iload_n dX4_melt_62 rfl 3 rfl ?_
          refine tn_icmp_ge (tgt := 113) dX4_melt_63 (by decide) ⟨by omega, by omega⟩ ⟨by omega, by omega⟩ (fun h26 => ?_) (fun h26 => ?_)
          · refine tn_iinc (q0 := 6) (L' := [(6, .int (iI (i6 + 1))), (7, .int (iI v24)), (0, .ref a), (1, .ref rx1), (2, .int (iI c2)), (3, .int (iI c3)), (5, .int (iI i5))]) dX4_melt_113 rfl (by decide) rfl ?_
            refine tn_goto (tgt := 12) dX4_melt_116 (by decide) ?_
            exact tn_sub [2, 3, 4, 5, 6, 0] rfl (ih _ (by omega) T (i5) (i6 + 1) σ hG hw (FrC.rfl.trans (FrC.sub hF (by decide))) h_a h_rx1 (by omega) t_rx1 (by omega) (by omega) rfl)
          · refine tn_iload dX4_melt_66 0 rfl ?_
            refine tn_aload_n dX4_melt_68 rfl 2 rfl ?_
            refine tn_alenX dX4_melt_69 (by have q9 := h_rx1; omega) ?_
            refine tn_icmp_ge (tgt := 113) dX4_melt_70 (by decide) ⟨by omega, by omega⟩ ⟨by omega, by omega⟩ (fun h27 => ?_) (fun h27 => ?_)
            · refine tn_iinc (q0 := 6) (L' := [(6, .int (iI (i6 + 1))), (7, .int (iI v24)), (0, .ref a), (1, .ref rx1), (2, .int (iI c2)), (3, .int (iI c3)), (5, .int (iI i5))]) dX4_melt_113 rfl (by decide) rfl ?_
              refine tn_goto (tgt := 12) dX4_melt_116 (by decide) ?_
              exact tn_sub [2, 3, 4, 5, 6, 0] rfl (ih _ (by omega) T (i5) (i6 + 1) σ hG hw (FrC.rfl.trans (FrC.sub hF (by decide))) h_a h_rx1 (by omega) t_rx1 (by omega) (by omega) rfl)
            · refine tn_iload dX4_melt_73 0 rfl ?_
              refine tn_iload_n dX4_melt_75 rfl 4 rfl ?_
              refine tn_icmp_eq (tgt := 113) dX4_melt_76 (by decide) ⟨by omega, by omega⟩ ⟨by omega, by omega⟩ (fun h28 => ?_) (fun h28 => ?_)
              · refine tn_iinc (q0 := 6) (L' := [(6, .int (iI (i6 + 1))), (7, .int (iI v24)), (0, .ref a), (1, .ref rx1), (2, .int (iI c2)), (3, .int (iI c3)), (5, .int (iI i5))]) dX4_melt_113 rfl (by decide) rfl ?_
                refine tn_goto (tgt := 12) dX4_melt_116 (by decide) ?_
                exact tn_sub [2, 3, 4, 5, 6, 0] rfl (ih _ (by omega) T (i5) (i6 + 1) σ hG hw (FrC.rfl.trans (FrC.sub hF (by decide))) h_a h_rx1 (by omega) t_rx1 (by omega) (by omega) rfl)
              · refine tn_aload_n dX4_melt_79 rfl 2 rfl ?_
                refine tn_iload dX4_melt_80 0 rfl ?_
                obtain ⟨x29, hx30, hk31⟩ := (hw).2.2.2.1.2 rx1 t_rx1 (v24) (by omega) (by omega)
                refine tn_aald (z := v24) (x := x29) dX4_melt_82 h_rx1 (by omega) (by omega) (by omega) hx30 ?_
                have hk31o : OB T x29 1 := ⟨by omega, by rw [hk31]; rfl, by omega⟩
                refine tn_ifnull dX4_melt_83 ?_
                refine tn_aload_n dX4_melt_86 rfl 1 rfl ?_
                refine tn_aload_n dX4_melt_87 rfl 2 rfl ?_
                refine tn_iload dX4_melt_88 0 rfl ?_
                obtain ⟨x32, hx33, hk34⟩ := (hw).2.2.2.1.2 rx1 t_rx1 (v24) (by omega) (by omega)
                refine tn_aald (z := v24) (x := x32) dX4_melt_90 h_rx1 (by omega) (by omega) (by omega) hx33 ?_
                have hk34o : OB T x32 1 := ⟨by omega, by rw [hk34]; rfl, by omega⟩
                refine tn_putV (ci := 4) (i := 3) (n := 26) (r := true) (v := (x32 : Int)) tyX4 tyX4_ok nmX4 dX4_melt_91 rfl lay_4 (by decide) fl4_33 rfl (tyX4_ok 3 (by decide)) (vl_ref rfl).symm rfl rfl h_a rfl rfl ?_
                refine tn_aload_n dX4_melt_94 rfl 1 rfl ?_
                refine tn_callV (M := m_X4_melt) (pc := 95) (ix := 36) (ci := 4) (M' := m_X4_isSmall) (As := []) (rest := []) dX4_melt_95 ok_X4_isSmall im_X4_isSmall se_X4_isSmall ml4_36 np_X4_isSmall rfl rfl h_a rfl (Nat.le_of_ble_eq_true rfl) (Nat.le_of_ble_eq_true rfl) rfl (k_X4_isSmall (d + 2) (T := T) (σ := (sA 26 a ((x32 : Int)) σ)) (a := a) h_a (hw.put (by decide) (by decide) (fo_26 (Or.inr ⟨_, rfl, hk34⟩))) (by rw [show (sA 26 a ((x32 : Int)) σ).2.1 26 a = (x32 : Int) from ra_eq]; omega)) (fun r35 T37 σ36 gt38 hp => ?_)
                obtain ⟨v40, rfl, rfl, rfl, f39⟩ := hp
                clear gt38
                show Tn _ _ 98 T (sA 26 a ((x32 : Int)) σ) [(7, .int (iI v24)), (0, .ref a), (1, .ref rx1), (2, .int (iI c2)), (3, .int (iI c3)), (5, .int (iI i5)), (6, .int (iI i6))] [.int (iI v40)] _
                refine tn_if_eq (tgt := 113) dX4_melt_98 (by decide) ⟨by omega, by omega⟩ (fun h41 => ?_) (fun h41 => ?_)
                · refine tn_iinc (q0 := 6) (L' := [(6, .int (iI (i6 + 1))), (7, .int (iI v24)), (0, .ref a), (1, .ref rx1), (2, .int (iI c2)), (3, .int (iI c3)), (5, .int (iI i5))]) dX4_melt_113 rfl (by decide) rfl ?_
                  refine tn_goto (tgt := 12) dX4_melt_116 (by decide) ?_
                  exact tn_sub [2, 3, 4, 5, 6, 0] rfl (ih _ (by omega) T (i5) (i6 + 1) (sA 26 a ((x32 : Int)) σ) hG (hw.put (by decide) (by decide) (fo_26 (Or.inr ⟨_, rfl, hk34⟩))) ((FrC.rfl.trans (FrC.sub hF (by decide))).put (by decide) (by decide)) h_a h_rx1 (by omega) t_rx1 (by omega) (by omega) rfl)
                · refine tn_aload_n dX4_melt_101 rfl 1 rfl ?_
                  refine tn_iload dX4_melt_102 6 rfl ?_
                  refine tn_callV (M := m_X4_melt) (pc := 104) (ix := 40) (ci := 4) (M' := m_X4_meltAt) (As := [.int (iI i6)]) (rest := []) dX4_melt_104 ok_X4_meltAt im_X4_meltAt se_X4_meltAt ml4_40 np_X4_meltAt rfl rfl h_a rfl (Nat.le_of_ble_eq_true rfl) (Nat.le_of_ble_eq_true rfl) rfl (k_X4_meltAt (d) (T := T) (σ := (sA 26 a ((x32 : Int)) σ)) (a := a) (p1 := i6) h_a (by omega) (hw.put (by decide) (by decide) (fo_26 (Or.inr ⟨_, rfl, hk34⟩))) (by rw [show (sA 26 a ((x32 : Int)) σ).2.1 25 a = σ0.2.1 25 a from rc_o (by decide) (rc_F hF (Or.inl (by decide)) (by decide) (rfl))]; omega) (by rw [show (sA 26 a ((x32 : Int)) σ).2.1 26 a = (x32 : Int) from ra_eq]; omega)) (fun r42 T44 σ43 gt45 hp => ?_)
                  obtain ⟨v47, rfl, w48, F49, f46⟩ := hp
                  rw [← gt45.lenQ h_rx1] at l_rx1
                  replace h_a : OB T44 a 4 := gt45.ob h_a
                  replace t_rx1 : (T44 rx1).1 = 5 := gt45.kk t_rx1 (by decide) (by decide)
                  replace h_rx1 : (T44 rx1).1 = 4 ∨ (T44 rx1).1 = 5 := by rw [gt45 rx1 (by omega) (by omega)]; exact h_rx1
                  show Tn _ _ 107 T44 σ43 [(7, .int (iI v24)), (0, .ref a), (1, .ref rx1), (2, .int (iI c2)), (3, .int (iI c3)), (5, .int (iI i5)), (6, .int (iI i6))] [.int (iI v47)] _
                  refine tn_if_eq (tgt := 113) dX4_melt_107 (by decide) ⟨by omega, by omega⟩ (fun h50 => ?_) (fun h50 => ?_)
                  · refine tn_iinc (q0 := 6) (L' := [(6, .int (iI (i6 + 1))), (7, .int (iI v24)), (0, .ref a), (1, .ref rx1), (2, .int (iI c2)), (3, .int (iI c3)), (5, .int (iI i5))]) dX4_melt_113 rfl (by decide) rfl ?_
                    refine tn_goto (tgt := 12) dX4_melt_116 (by decide) ?_
                    exact tn_sub [2, 3, 4, 5, 6, 0] rfl (ih _ (by omega) T44 (i5) (i6 + 1) σ43 (GT.trans hG gt45) w48 (((FrC.rfl.trans (FrC.sub hF (by decide))).put (by decide) (by decide)).trans (FrC.sub (FrC.old F49 hG) (by decide))) h_a h_rx1 (by omega) t_rx1 (by omega) (by omega) rfl)
                  · refine tn_iinc (q0 := 5) (L' := [(5, .int (iI (i5 + 1))), (7, .int (iI v24)), (0, .ref a), (1, .ref rx1), (2, .int (iI c2)), (3, .int (iI c3)), (6, .int (iI i6))]) dX4_melt_110 rfl (by decide) rfl ?_
                    obtain ⟨z51, g52, g52e⟩ := wr_ex (i5 + 1)
                    rw [g52e]
                    have g52r : -2147483648 ≤ z51 ∧ z51 ≤ 2147483647 := g52
                    refine tn_iinc (q0 := 6) (L' := [(6, .int (iI (i6 + 1))), (5, .int (iI z51)), (7, .int (iI v24)), (0, .ref a), (1, .ref rx1), (2, .int (iI c2)), (3, .int (iI c3))]) dX4_melt_113 rfl (by decide) rfl ?_
                    refine tn_goto (tgt := 12) dX4_melt_116 (by decide) ?_
                    exact tn_sub [3, 4, 5, 6, 1, 0] rfl (ih _ (by omega) T44 (z51) (i6 + 1) σ43 (GT.trans hG gt45) w48 (((FrC.rfl.trans (FrC.sub hF (by decide))).put (by decide) (by decide)).trans (FrC.sub (FrC.old F49 hG) (by decide))) h_a h_rx1 (by omega) t_rx1 (by omega) (by omega) rfl)
theorem dX4_melt_119 : decode cX4_melt 119 = .ok (.iload 5, 2) := by decide +kernel
theorem dX4_melt_121 : decode cX4_melt 121 = .ok (.ireturn, 1) := by decide +kernel
set_option maxRecDepth 20000 in
theorem k_X4_melt (d : Nat) {T : CT} {σ : MS} {a : Nat} {cs : Nat} {n : Int} {r : Int} {c : Nat} (ha : OB T a 4) (h_cs : (T cs).1 = 4 ∨ (T cs).1 = 5) (l_cs : (T cs).2 ≤ 1000000) (t_cs : (T cs).1 = 5) (h_n : -2147483648 ≤ n ∧ n ≤ 2147483647) (h_r : -2147483648 ≤ r ∧ r ≤ 2147483647) (h_c : OB T c 1) (t_c : (T c).1 = 50) (hw : WT T σ) : Tn (d + 6) m_X4_melt 0 T σ [(0, .ref a), (1, .ref cs), (2, .int (iI n)), (3, .int (iI r)), (4, .ref c)] [] (fun ro T2 σ2 => ∃ v : Int, ro = some (.int (iI v)) ∧ WT T2 σ2 ∧ FrC T [5, 6, 10, 25, 26, 27, 28, 29, 30, 31, 32] σ σ2 ∧ (-2147483648 ≤ v ∧ v ≤ 2147483647)) := by
  refine tn_aload_n dX4_melt_0 rfl 0 rfl ?_
  refine tn_aload dX4_melt_1 4 rfl ?_
  refine tn_putV (ci := 4) (i := 2) (n := 25) (r := true) (v := (c : Int)) tyX4 tyX4_ok nmX4 dX4_melt_3 rfl lay_4 (by decide) fl4_19 rfl (tyX4_ok 2 (by decide)) (vl_ref rfl).symm rfl rfl ha rfl rfl ?_
  refine tn_iconst dX4_melt_6 ?_
  refine tn_istore (L' := [(5, .int (iI 0)), (0, .ref a), (1, .ref cs), (2, .int (iI n)), (3, .int (iI r)), (4, .ref c)]) dX4_melt_7 (by decide) rfl ?_
  refine tn_iconst dX4_melt_9 ?_
  refine tn_istore (L' := [(6, .int (iI 0)), (5, .int (iI 0)), (0, .ref a), (1, .ref cs), (2, .int (iI n)), (3, .int (iI r)), (4, .ref c)]) dX4_melt_10 (by decide) rfl ?_
  refine tn_sub [2, 3, 4, 5, 1, 0] rfl (l_X4_melt_12 (d) (σ0 := (sA 25 a ((c : Int)) σ)) (T0 := T) (a := a) (rx1 := cs) (c2 := n) (c3 := r) (by omega) (by omega) (hw.put (by decide) (by decide) (fo_25 (Or.inr ⟨_, rfl, t_c⟩))) (by rw [show (sA 25 a ((c : Int)) σ).2.1 25 a = (c : Int) from ra_eq]; omega) (fun T4 i51 i62 σ3 gt5 w6 F7 q8 q9 q10 q11 r12 r13 => ?_) _ T (0) (0) (sA 25 a ((c : Int)) σ) GT.rfl (hw.put (by decide) (by decide) (fo_25 (Or.inr ⟨_, rfl, t_c⟩))) FrC.rfl ha h_cs (by omega) t_cs (by omega) (by omega) rfl)
  show Tn _ _ 119 T4 σ3 [(0, .ref a), (1, .ref cs), (2, .int (iI n)), (3, .int (iI r)), (5, .int (iI i51)), (6, .int (iI i62))] [] _
  refine tn_iload dX4_melt_119 4 rfl ?_
  exact tn_iret rfl dX4_melt_121 ⟨_, rfl, w6, ((FrC.rfl.put (by decide) (by decide)).trans (FrC.sub F7 (by decide))), by omega⟩
