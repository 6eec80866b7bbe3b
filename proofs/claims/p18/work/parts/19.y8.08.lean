section
set_option maxHeartbeats 1000000 in
set_option maxRecDepth 20000 in
theorem l_X6_fold_x_21 (d : Nat) {T : CT} {σ0 : MS} {a : Nat} {rx1 : Nat} {c4 : Int} {x : Nat} {n : Int} {W : Int → It} {xk : Nat} {xv : Nat} {Rk : Int → Int} {Rv : Int → Int} {post : Option Value → CT → MS → Prop} (h_a : OB T a 6) (h_rx1 : OB T rx1 1) (t_rx1 : (T rx1).1 = 50) (r_c4 : 0 ≤ c4 ∧ c4 ≤ 200) (hw0 : WT T σ0) (hx : σ0.2.1 5 rx1 = (x : Int)) (hxk : σ0.2.1 52 a = (xk : Int)) (hxv : σ0.2.1 53 a = (xv : Int)) (hN : n ≤ 200) (hne : xk ≠ x ∧ xv ≠ x ∧ xk ≠ xv) (hx_142 : ∀ (i2 : Int) (i3 : Int) (i5 : Int) (σ : MS) , (WT T σ) → (FrC T [6] σ0 σ) → (0 ≤ i2 ∧ i2 ≤ 200) → (0 ≤ i3 ∧ i3 ≤ 200) → (0 ≤ i5 ∧ i5 ≤ 200) → (CHX [(6, rx1)] [x, xk, xv] [] σ0 σ) → (FI (vW W) c4 i5 i3 i2 (kn2 (σ.2.1 (1000 + xk)) (σ.2.1 (1000 + xv))) (cW σ x (σ.2.1 6 rx1)) (σ.2.1 6 rx1)) → (WOK (cW σ x (σ.2.1 6 rx1)) (σ.2.1 6 rx1)) → (KNO (kn2 (σ.2.1 (1000 + xk)) (σ.2.1 (1000 + xv)))) → (c4 ≤ 200 ∧ (σ.2.1 6 rx1) ≤ 200 ∧ 0 ≤ σ.2.1 6 rx1) → (c4 ≤ i5) → Tn (d + 4) m_X6_fold 142 T σ [(0, .ref a), (1, .ref rx1), (2, .int (iI i2)), (3, .int (iI i3)), (4, .int (iI c4)), (5, .int (iI i5))] [] post) : ∀ (nq9 : Nat) (i2 : Int) (i3 : Int) (i5 : Int) (σ : MS) , (WT T σ) → (FrC T [6] σ0 σ) → (0 ≤ i2 ∧ i2 ≤ 200) → (0 ≤ i3 ∧ i3 ≤ 200) → (0 ≤ i5 ∧ i5 ≤ 200) → (CHX [(6, rx1)] [x, xk, xv] [] σ0 σ) → (FI (vW W) c4 i5 i3 i2 (kn2 (σ.2.1 (1000 + xk)) (σ.2.1 (1000 + xv))) (cW σ x (σ.2.1 6 rx1)) (σ.2.1 6 rx1)) → (WOK (cW σ x (σ.2.1 6 rx1)) (σ.2.1 6 rx1)) → (KNO (kn2 (σ.2.1 (1000 + xk)) (σ.2.1 (1000 + xv)))) → (c4 ≤ 200 ∧ (σ.2.1 6 rx1) ≤ 200 ∧ 0 ≤ σ.2.1 6 rx1) → (2147483700 - i5).toNat = nq9 → Tn (d + 4) m_X6_fold 21 T σ [(0, .ref a), (1, .ref rx1), (2, .int (iI i2)), (3, .int (iI i3)), (4, .int (iI c4)), (5, .int (iI i5))] [] post := by
  intro nq9
  induction nq9 using Nat.strongRecOn with
  | _ nq9 ih =>
    intro i2 i3 i5 σ hw hF r_i2 r_i3 r_i5 hC hI hwk hko h0 hm
    have hI2 := hI.2.1
    have hI3 := hI.2.2.1
    have hI4 := hI.2.2.2.1
    refine tn_iload dX6_fold_21 5 rfl ?_
    refine tn_iload dX6_fold_23 4 rfl ?_
    refine tn_icmp_ge (tgt := 142) dX6_fold_25 (by decide) ⟨by omega, by omega⟩ ⟨by omega, by omega⟩ (fun h1 => ?_) (fun h1 => ?_)
    · exact tn_sub [0, 1, 2, 3, 4, 5] rfl (hx_142 (i2) (i3) (i5) σ hw (FrC.rfl.trans (FrC.sub hF (by decide))) (by omega) (by omega) (by omega) hC hI hwk hko (by omega) (by omega))
    · refine tn_aload_n dX6_fold_28 rfl 1 rfl ?_
      refine tn_iload_n dX6_fold_29 rfl 3 rfl ?_
      refine tn_iconst dX6_fold_30 ?_
      obtain ⟨hl5, hk4a, hk4b⟩ := cel_of (wf_5 hw0 h_rx1) hx
      have hk4 : (T x).1 = 1 := hk4a (by omega)
      clear hk4a hk4b
      have hk4i : IA T x := by unfold IA; omega
      refine tn_callV (M := m_X6_fold) (pc := 31) (ix := 34) (ci := 1) (M' := m_X1_get) (As := [.int (iI i3), .int (iI 0)]) (rest := []) dX6_fold_31 ok_X1_get im_X1_get se_X1_get ml6_34 np_X1_get rfl rfl h_rx1 rfl (Nat.le_of_ble_eq_true rfl) (Nat.le_of_ble_eq_true rfl) rfl (k_X1_get_x (d + 2) (T := T) (σ := σ) (a := rx1) (k := i3) (c := 0) (x := x) (n := σ.2.1 6 rx1) (W := cW σ x (σ.2.1 6 rx1)) h_rx1 (by omega) (by decide) hw (rc_F hF (Or.inl (by decide)) (by decide) (hx)) (rfl) rfl (by omega) (by omega)) (fun r6 T8 σ7 gt9 hp => ?_)
      obtain ⟨v12, rfl, rfl, rfl, f10, f11⟩ := hp
      clear gt9
      show Tn _ _ 34 T σ [(0, .ref a), (1, .ref rx1), (2, .int (iI i2)), (3, .int (iI i3)), (4, .int (iI c4)), (5, .int (iI i5))] [.int (iI v12)] _
      refine tn_istore (L' := [(6, .int (iI v12)), (0, .ref a), (1, .ref rx1), (2, .int (iI i2)), (3, .int (iI i3)), (4, .int (iI c4)), (5, .int (iI i5))]) dX6_fold_34 (by decide) rfl ?_
      refine tn_iload dX6_fold_36 0 rfl ?_
      refine tn_bipush dX6_fold_38 (by decide) ?_
      refine tn_icmp_ne (tgt := 54) dX6_fold_40 (by decide) ⟨by omega, by omega⟩ ⟨by decide, by decide⟩ (fun h13 => ?_) (fun h13 => ?_)
      · refine tn_iload dX6_fold_54 0 rfl ?_
        refine tn_bipush dX6_fold_56 (by decide) ?_
        refine tn_icmp_ne (tgt := 70) dX6_fold_58 (by decide) ⟨by omega, by omega⟩ ⟨by decide, by decide⟩ (fun h14 => ?_) (fun h14 => ?_)
        · refine tn_iload dX6_fold_70 0 rfl ?_
          refine tn_callSN (M := m_X6_fold) (pc := 72) (ix := 42) (M' := m_X11_isAct) (As := [.int (iI v12)]) (rest := []) dX6_fold_72 ok_X11_isAct stt_X11_isAct nl6_42 np_X11_isAct rfl (Nat.le_of_ble_eq_true rfl) (Nat.le_of_ble_eq_true rfl) rfl (k_X11_isAct_x (d + 2) (T := T) (σ := σ) (k := v12) (by omega) hw ) (fun r15 T17 σ16 gt18 hp => ?_)
          obtain ⟨v21, rfl, rfl, rfl, f19, f20⟩ := hp
          clear gt18
          show Tn _ _ 75 T σ [(6, .int (iI v12)), (0, .ref a), (1, .ref rx1), (2, .int (iI i2)), (3, .int (iI i3)), (4, .int (iI c4)), (5, .int (iI i5))] [.int (iI v21)] _
          refine tn_if_eq (tgt := 116) dX6_fold_75 (by decide) ⟨by omega, by omega⟩ (fun h22 => ?_) (fun h22 => ?_)
          · refine tn_aload_n dX6_fold_116 rfl 1 rfl ?_
            refine tn_aload_n dX6_fold_117 rfl 2 rfl ?_
            refine tn_iload_n dX6_fold_118 rfl 4 rfl ?_
            refine tn_callV (M := m_X6_fold) (pc := 119) (ix := 56) (ci := 6) (M' := m_X6_goesOut) (As := [.ref rx1, .int (iI i3)]) (rest := []) dX6_fold_119 ok_X6_goesOut im_X6_goesOut se_X6_goesOut ml6_56 np_X6_goesOut rfl rfl h_a rfl (Nat.le_of_ble_eq_true rfl) (Nat.le_of_ble_eq_true rfl) rfl (k_X6_goesOut_x (d + 1) (T := T) (σ := σ) (a := a) (p1 := rx1) (p2 := i3) (x := x) (n := σ.2.1 6 rx1) (W := cW σ x (σ.2.1 6 rx1)) h_a h_rx1 t_rx1 (by omega) hw (rc_F hF (Or.inl (by decide)) (by decide) (hx)) (rfl) rfl (by omega)) (fun r23 T25 σ24 gt26 hp => ?_)
            obtain ⟨v29, rfl, rfl, rfl, f27, f28⟩ := hp
            clear gt26
            show Tn _ _ 122 T σ [(6, .int (iI v12)), (0, .ref a), (1, .ref rx1), (2, .int (iI i2)), (3, .int (iI i3)), (4, .int (iI c4)), (5, .int (iI i5))] [.int (iI v29)] _
            refine tn_if_eq (tgt := 133) dX6_fold_122 (by decide) ⟨by omega, by omega⟩ (fun h30 => ?_) (fun h30 => ?_)
            · refine tn_iinc (q0 := 4) (L' := [(3, .int (iI (i3 + 1))), (6, .int (iI v12)), (0, .ref a), (1, .ref rx1), (2, .int (iI i2)), (4, .int (iI c4)), (5, .int (iI i5))]) dX6_fold_133 rfl (by decide) rfl ?_
              refine tn_iinc (q0 := 6) (L' := [(5, .int (iI (i5 + 1))), (3, .int (iI (i3 + 1))), (6, .int (iI v12)), (0, .ref a), (1, .ref rx1), (2, .int (iI i2)), (4, .int (iI c4))]) dX6_fold_136 rfl (by decide) rfl ?_
              refine tn_goto (tgt := 21) dX6_fold_139 (by decide) ?_
              have em31 : σ.2.1 6 rx1 = σ.2.1 6 rx1 := rfl
              have ew32 : cW σ x (σ.2.1 6 rx1) = cW σ x (σ.2.1 6 rx1) := by first | (rw [em31]; done) | (rw [em31]; exact rfl)
              have ek33 : kn2 (σ.2.1 (1000 + xk)) (σ.2.1 (1000 + xv)) = kn2 (σ.2.1 (1000 + xk)) (σ.2.1 (1000 + xv)) := by first | rfl | (rfl)
              exact tn_sub [3, 4, 5, 1, 6, 0] rfl (ih _ (by omega) (i2) (i3 + 1) (i5 + 1) σ hw (FrC.rfl.trans (FrC.sub hF (by decide))) (by omega) (by omega) (by omega) hC (FI.mark2 hI (by omega) (by have z := (hwk i3 (by omega) (by omega)).1; omega) ew32 ek33 em31) (by rw [ew32, em31]; exact hwk) (by rw [ek33]; exact hko) (by have z := em31; omega) rfl)
            · refine tn_aload_n dX6_fold_125 rfl 2 rfl ?_
              refine tn_iload_n dX6_fold_126 rfl 4 rfl ?_
              refine tn_callV (M := m_X6_fold) (pc := 127) (ix := 59) (ci := 1) (M' := m_X1_removeRow) (As := [.int (iI i3)]) (rest := []) dX6_fold_127 ok_X1_removeRow im_X1_removeRow se_X1_removeRow ml6_59 np_X1_removeRow rfl rfl h_rx1 rfl (Nat.le_of_ble_eq_true rfl) (Nat.le_of_ble_eq_true rfl) rfl (k_X1_removeRow_x (d + 2) (T := T) (σ := σ) (a := rx1) (k := i3) (x := x) (n := σ.2.1 6 rx1) (W := cW σ x (σ.2.1 6 rx1)) h_rx1 t_rx1 (by omega) hw (rc_F hF (Or.inl (by decide)) (by decide) (hx)) (rfl) rfl (by omega) (by omega)) (fun r34 T36 σ35 gt37 hp => ?_)
              obtain ⟨rfl, rfl, w42, F43, f38, f39, f40⟩ := hp
              clear gt37
              show Tn _ _ 130 T σ35 [(6, .int (iI v12)), (0, .ref a), (1, .ref rx1), (2, .int (iI i2)), (3, .int (iI i3)), (4, .int (iI c4)), (5, .int (iI i5))] [] _
              refine tn_goto (tgt := 136) dX6_fold_130 (by decide) ?_
              refine tn_iinc (q0 := 6) (L' := [(5, .int (iI (i5 + 1))), (6, .int (iI v12)), (0, .ref a), (1, .ref rx1), (2, .int (iI i2)), (3, .int (iI i3)), (4, .int (iI c4))]) dX6_fold_136 rfl (by decide) rfl ?_
              refine tn_goto (tgt := 21) dX6_fold_139 (by decide) ?_
              exact tn_sub [2, 3, 4, 5, 6, 0] rfl (ih _ (by omega) (i2) (i3) (i5 + 1) σ35 w42 ((FrC.rfl.trans (FrC.sub hF (by decide))).trans (FrC.sub F43 (by decide))) (by omega) (by omega) (by omega) (hC.trans (CHX.sub f38 (by simp) (by simp) (by simp))) (False.elim (by omega)) (False.elim (by omega)) (False.elim (by omega)) (False.elim (by omega)) rfl)
          · refine tn_aload_n dX6_fold_78 rfl 1 rfl ?_
            refine tn_aload_n dX6_fold_79 rfl 2 rfl ?_
            refine tn_iload_n dX6_fold_80 rfl 4 rfl ?_
            obtain ⟨hk46, hl47⟩ : AR T xk 1 192 192 := ar_of (wf_52 hw0 h_a) hxk
            have hk46i : IA T xk := by unfold IA; omega
            obtain ⟨hk50, hl51⟩ : AR T xv 1 192 192 := ar_of (wf_53 hw0 h_a) hxv
            have hk50i : IA T xv := by unfold IA; omega
            refine tn_callV (M := m_X6_fold) (pc := 81) (ix := 46) (ci := 6) (M' := m_X6_foldOperands) (As := [.ref rx1, .int (iI i3)]) (rest := []) dX6_fold_81 ok_X6_foldOperands im_X6_foldOperands se_X6_foldOperands ml6_46 np_X6_foldOperands rfl rfl h_a rfl (Nat.le_of_ble_eq_true rfl) (Nat.le_of_ble_eq_true rfl) rfl (k_X6_foldOperands_x (d + 1) (T := T) (σ := σ) (a := a) (p1 := rx1) (p2 := i3) (x := x) (n := σ.2.1 6 rx1) (W := cW σ x (σ.2.1 6 rx1)) (xk := xk) (xv := xv) (Rk := σ.2.1 (1000 + xk)) (Rv := σ.2.1 (1000 + xv)) h_a h_rx1 t_rx1 (by omega) hw (rc_F hF (Or.inl (by decide)) (by decide) (hx)) (rfl) rfl (rc_F hF (Or.inl (by decide)) (by decide) (hxk)) (rc_F hF (Or.inl (by decide)) (by decide) (hxv)) rfl rfl (by omega) (by omega) (by omega)) (fun r52 T54 σ53 gt55 hp => ?_)
            obtain ⟨v60, rfl, rfl, w61, F62, f56, f57, f58, f59⟩ := hp
            clear gt55
            show Tn _ _ 84 T σ53 [(6, .int (iI v12)), (0, .ref a), (1, .ref rx1), (2, .int (iI i2)), (3, .int (iI i3)), (4, .int (iI c4)), (5, .int (iI i5))] [.int (iI v60)] _
            refine tn_istore (L' := [(7, .int (iI v60)), (6, .int (iI v12)), (0, .ref a), (1, .ref rx1), (2, .int (iI i2)), (3, .int (iI i3)), (4, .int (iI c4)), (5, .int (iI i5))]) dX6_fold_84 (by decide) rfl ?_
            refine tn_iload dX6_fold_86 0 rfl ?_
            refine tn_aload_n dX6_fold_88 rfl 2 rfl ?_
            refine tn_aload_n dX6_fold_89 rfl 3 rfl ?_
            refine tn_iload_n dX6_fold_90 rfl 5 rfl ?_
            refine tn_callV (M := m_X6_fold) (pc := 91) (ix := 50) (ci := 6) (M' := m_X6_foldAct) (As := [.ref rx1, .int (iI i3)]) (rest := [.int (iI v60)]) dX6_fold_91 ok_X6_foldAct im_X6_foldAct se_X6_foldAct ml6_50 np_X6_foldAct rfl rfl h_a rfl (Nat.le_of_ble_eq_true rfl) (Nat.le_of_ble_eq_true rfl) rfl (k_X6_foldAct_x (d) (T := T) (σ := σ53) (a := a) (p1 := rx1) (p2 := i3) (x := x) (n := σ.2.1 6 rx1) (W := cW σ53 x (σ.2.1 6 rx1)) h_a h_rx1 t_rx1 (by omega) w61 (rc_F F62 (Or.inl (by decide)) (by decide) (rc_F hF (Or.inl (by decide)) (by decide) (hx))) (rc_F F62 (Or.inl (by decide)) (by decide) (rfl)) rfl (by omega) (by omega)) (fun r63 T65 σ64 gt66 hp => ?_)
            obtain ⟨v71, rfl, rfl, w72, F73, f67, f68, f69, f70⟩ := hp
            clear gt66
            show Tn _ _ 94 T σ64 [(7, .int (iI v60)), (6, .int (iI v12)), (0, .ref a), (1, .ref rx1), (2, .int (iI i2)), (3, .int (iI i3)), (4, .int (iI c4)), (5, .int (iI i5))] [.int (iI v71), .int (iI v60)] _
            refine tn_ior dX6_fold_94 ?_
            refine tn_borX (x := v60) (y := v71) (by omega) (by omega) (fun z76 g77 g77w => ?_)
            refine tn_istore (L' := [(7, .int (iI z76)), (6, .int (iI v12)), (0, .ref a), (1, .ref rx1), (2, .int (iI i2)), (3, .int (iI i3)), (4, .int (iI c4)), (5, .int (iI i5))]) dX6_fold_95 (by decide) rfl ?_
            refine tn_iload_n dX6_fold_97 rfl 4 rfl ?_
            refine tn_iload dX6_fold_98 0 rfl ?_
            refine tn_if_eq (tgt := 107) dX6_fold_100 (by decide) ⟨by omega, by omega⟩ (fun h78 => ?_) (fun h78 => ?_)
            · refine tn_iconst dX6_fold_107 ?_
              refine tn_iadd dX6_fold_108 ?_
              refine tn_istore_n (L' := [(2, .int (iI (i2 + 0))), (7, .int (iI z76)), (6, .int (iI v12)), (0, .ref a), (1, .ref rx1), (3, .int (iI i3)), (4, .int (iI c4)), (5, .int (iI i5))]) dX6_fold_109 rfl (by decide) rfl ?_
              refine tn_aload_n dX6_fold_110 rfl 3 rfl ?_
              refine tn_aload_n dX6_fold_111 rfl 4 rfl ?_
              refine tn_iload_n dX6_fold_112 rfl 5 rfl ?_
              have cv79 : σ64.2.1 (1000 + xk) = σ.2.1 (1000 + xk) := (CHX.r f68 (by first | (simp; done) | (simp only [List.mem_cons, List.not_mem_nil, or_false, not_or]; omega))).trans ((CHX.r f57 (by first | (simp; done) | (simp only [List.mem_cons, List.not_mem_nil, or_false, not_or]; omega))).trans (rfl))
              have cv80 : σ64.2.1 (1000 + xv) = σ.2.1 (1000 + xv) := (CHX.r f68 (by first | (simp; done) | (simp only [List.mem_cons, List.not_mem_nil, or_false, not_or]; omega))).trans ((CHX.r f57 (by first | (simp; done) | (simp only [List.mem_cons, List.not_mem_nil, or_false, not_or]; omega))).trans (rfl))
              refine tn_callV (M := m_X6_fold) (pc := 113) (ix := 53) (ci := 6) (M' := m_X6_learn) (As := [.ref rx1, .int (iI i3)]) (rest := []) dX6_fold_113 ok_X6_learn im_X6_learn se_X6_learn ml6_53 np_X6_learn rfl rfl h_a rfl (Nat.le_of_ble_eq_true rfl) (Nat.le_of_ble_eq_true rfl) rfl (k_X6_learn_x (d) (T := T) (σ := σ64) (a := a) (p1 := rx1) (p2 := i3) (x := x) (n := σ.2.1 6 rx1) (W := cW σ64 x (σ.2.1 6 rx1)) (xk := xk) (xv := xv) (Rk := σ.2.1 (1000 + xk)) (Rv := σ.2.1 (1000 + xv)) h_a h_rx1 t_rx1 (by omega) w72 (rc_F F73 (Or.inl (by decide)) (by decide) (rc_F F62 (Or.inl (by decide)) (by decide) (rc_F hF (Or.inl (by decide)) (by decide) (hx)))) (rc_F F73 (Or.inl (by decide)) (by decide) (rc_F F62 (Or.inl (by decide)) (by decide) (rfl))) rfl (rc_F F73 (Or.inl (by decide)) (by decide) (rc_F F62 (Or.inl (by decide)) (by decide) (rc_F hF (Or.inl (by decide)) (by decide) (hxk)))) (rc_F F73 (Or.inl (by decide)) (by decide) (rc_F F62 (Or.inl (by decide)) (by decide) (rc_F hF (Or.inl (by decide)) (by decide) (hxv)))) cv79 cv80 (by omega) (by omega) (by omega) (by obtain ⟨q1, q2, q3⟩ := two_it f58 f69; rw [q3]; exact faI_iOK (foO_iOK (hwk _ (by omega) (by omega)) hko (by omega)) (by rw [foO_0c]; omega))) (fun r81 T83 σ82 gt84 hp => ?_)
              obtain ⟨rfl, rfl, w88, F89, f85, f86⟩ := hp
              clear gt84
              show Tn _ _ 116 T σ82 [(2, .int (iI (i2 + 0))), (7, .int (iI z76)), (6, .int (iI v12)), (0, .ref a), (1, .ref rx1), (3, .int (iI i3)), (4, .int (iI c4)), (5, .int (iI i5))] [] _
              refine tn_aload_n dX6_fold_116 rfl 3 rfl ?_
              refine tn_aload_n dX6_fold_117 rfl 4 rfl ?_
              refine tn_iload_n dX6_fold_118 rfl 5 rfl ?_
              have cv90 : cW σ82 x (σ.2.1 6 rx1) = cW σ64 x (σ.2.1 6 rx1) := (cW_row (CHX.r f85 (by first | (simp; done) | (simp only [List.mem_cons, List.not_mem_nil, or_false, not_or]; omega)))).trans (rfl)
              refine tn_callV (M := m_X6_fold) (pc := 119) (ix := 56) (ci := 6) (M' := m_X6_goesOut) (As := [.ref rx1, .int (iI i3)]) (rest := []) dX6_fold_119 ok_X6_goesOut im_X6_goesOut se_X6_goesOut ml6_56 np_X6_goesOut rfl rfl h_a rfl (Nat.le_of_ble_eq_true rfl) (Nat.le_of_ble_eq_true rfl) rfl (k_X6_goesOut_x (d + 1) (T := T) (σ := σ82) (a := a) (p1 := rx1) (p2 := i3) (x := x) (n := σ.2.1 6 rx1) (W := cW σ64 x (σ.2.1 6 rx1)) h_a h_rx1 t_rx1 (by omega) w88 (rc_F F89 (Or.inl (by decide)) (by decide) (rc_F F73 (Or.inl (by decide)) (by decide) (rc_F F62 (Or.inl (by decide)) (by decide) (rc_F hF (Or.inl (by decide)) (by decide) (hx))))) (rc_F F89 (Or.inl (by decide)) (by decide) (rc_F F73 (Or.inl (by decide)) (by decide) (rc_F F62 (Or.inl (by decide)) (by decide) (rfl)))) cv90 (by omega)) (fun r91 T93 σ92 gt94 hp => ?_)
              obtain ⟨v97, rfl, rfl, rfl, f95, f96⟩ := hp
              clear gt94
              show Tn _ _ 122 T σ82 [(2, .int (iI (i2 + 0))), (7, .int (iI z76)), (6, .int (iI v12)), (0, .ref a), (1, .ref rx1), (3, .int (iI i3)), (4, .int (iI c4)), (5, .int (iI i5))] [.int (iI v97)] _
              refine tn_if_eq (tgt := 133) dX6_fold_122 (by decide) ⟨by omega, by omega⟩ (fun h98 => ?_) (fun h98 => ?_)
              · refine tn_iinc (q0 := 5) (L' := [(3, .int (iI (i3 + 1))), (2, .int (iI (i2 + 0))), (7, .int (iI z76)), (6, .int (iI v12)), (0, .ref a), (1, .ref rx1), (4, .int (iI c4)), (5, .int (iI i5))]) dX6_fold_133 rfl (by decide) rfl ?_
                refine tn_iinc (q0 := 7) (L' := [(5, .int (iI (i5 + 1))), (3, .int (iI (i3 + 1))), (2, .int (iI (i2 + 0))), (7, .int (iI z76)), (6, .int (iI v12)), (0, .ref a), (1, .ref rx1), (4, .int (iI c4))]) dX6_fold_136 rfl (by decide) rfl ?_
                refine tn_goto (tgt := 21) dX6_fold_139 (by decide) ?_
                have ek99 : kn2 (σ82.2.1 (1000 + xk)) (σ82.2.1 (1000 + xv)) = kn2 (σ82.2.1 (1000 + xk)) (σ82.2.1 (1000 + xv)) := by first | rfl | (rfl)
                have em100 : σ82.2.1 6 rx1 = σ.2.1 6 rx1 := rc_F F89 (Or.inl (by decide)) (by decide) (rc_F F73 (Or.inl (by decide)) (by decide) (rc_F F62 (Or.inl (by decide)) (by decide) (rfl)))
                have ew101 : cW σ82 x (σ82.2.1 6 rx1) = cW σ64 x (σ.2.1 6 rx1) := by first | (rw [em100]; done) | (rw [em100]; exact cv90)
                exact tn_sub [5, 6, 2, 1, 7, 0] rfl (ih _ (by omega) (i2 + 0) (i3 + 1) (i5 + 1) σ82 w88 ((((FrC.rfl.trans (FrC.sub hF (by decide))).trans (FrC.sub F62 (by decide))).trans (FrC.sub F73 (by decide))).trans (FrC.sub F89 (by decide))) (by omega) (by omega) (by omega) (((hC.trans (CHX.sub f57 (by simp) (by simp) (by simp))).trans (CHX.sub f68 (by simp) (by simp) (by simp))).trans (CHX.sub f85 (by simp) (by simp) (by simp))) (FI.act2 hI (by omega) (by omega) f58 f59 f56 f69 f70 g77w (ek99.trans f86) (by omega) (by omega) ew101 em100) (by rw [ew101, em100]; exact (wk_act hwk ⟨by omega, by omega⟩ hko (by omega) f58 f69 (ek99.trans f86)).1) (wk_act hwk ⟨by omega, by omega⟩ hko (by omega) f58 f69 (ek99.trans f86)).2 (by have z := em100; omega) rfl)
              · refine tn_aload_n dX6_fold_125 rfl 4 rfl ?_
                refine tn_iload_n dX6_fold_126 rfl 5 rfl ?_
                refine tn_callV (M := m_X6_fold) (pc := 127) (ix := 59) (ci := 1) (M' := m_X1_removeRow) (As := [.int (iI i3)]) (rest := []) dX6_fold_127 ok_X1_removeRow im_X1_removeRow se_X1_removeRow ml6_59 np_X1_removeRow rfl rfl h_rx1 rfl (Nat.le_of_ble_eq_true rfl) (Nat.le_of_ble_eq_true rfl) rfl (k_X1_removeRow_x (d + 2) (T := T) (σ := σ82) (a := rx1) (k := i3) (x := x) (n := σ.2.1 6 rx1) (W := cW σ64 x (σ.2.1 6 rx1)) h_rx1 t_rx1 (by omega) w88 (rc_F F89 (Or.inl (by decide)) (by decide) (rc_F F73 (Or.inl (by decide)) (by decide) (rc_F F62 (Or.inl (by decide)) (by decide) (rc_F hF (Or.inl (by decide)) (by decide) (hx))))) (rc_F F89 (Or.inl (by decide)) (by decide) (rc_F F73 (Or.inl (by decide)) (by decide) (rc_F F62 (Or.inl (by decide)) (by decide) (rfl)))) cv90 (by omega) (by omega)) (fun r102 T104 σ103 gt105 hp => ?_)
                obtain ⟨rfl, rfl, w110, F111, f106, f107, f108⟩ := hp
                clear gt105
                show Tn _ _ 130 T σ103 [(2, .int (iI (i2 + 0))), (7, .int (iI z76)), (6, .int (iI v12)), (0, .ref a), (1, .ref rx1), (3, .int (iI i3)), (4, .int (iI c4)), (5, .int (iI i5))] [] _
                refine tn_goto (tgt := 136) dX6_fold_130 (by decide) ?_
                refine tn_iinc (q0 := 7) (L' := [(5, .int (iI (i5 + 1))), (2, .int (iI (i2 + 0))), (7, .int (iI z76)), (6, .int (iI v12)), (0, .ref a), (1, .ref rx1), (3, .int (iI i3)), (4, .int (iI c4))]) dX6_fold_136 rfl (by decide) rfl ?_
                refine tn_goto (tgt := 21) dX6_fold_139 (by decide) ?_
                have cv112 : σ103.2.1 (1000 + xk) = σ82.2.1 (1000 + xk) := (CHX.r f106 (by first | (simp; done) | (simp only [List.mem_cons, List.not_mem_nil, or_false, not_or]; omega))).trans (rfl)
                have cv113 : σ103.2.1 (1000 + xv) = σ82.2.1 (1000 + xv) := (CHX.r f106 (by first | (simp; done) | (simp only [List.mem_cons, List.not_mem_nil, or_false, not_or]; omega))).trans (rfl)
                have ek114 : kn2 (σ103.2.1 (1000 + xk)) (σ103.2.1 (1000 + xv)) = kn2 (σ82.2.1 (1000 + xk)) (σ82.2.1 (1000 + xv)) := by first | rfl | (rw [cv112, cv113])
                have ew115 := cW_n f107 f108
                exact tn_sub [4, 5, 1, 6, 7, 0] rfl (ih _ (by omega) (i2 + 0) (i3) (i5 + 1) σ103 w110 (((((FrC.rfl.trans (FrC.sub hF (by decide))).trans (FrC.sub F62 (by decide))).trans (FrC.sub F73 (by decide))).trans (FrC.sub F89 (by decide))).trans (FrC.sub F111 (by decide))) (by omega) (by omega) (by omega) ((((hC.trans (CHX.sub f57 (by simp) (by simp) (by simp))).trans (CHX.sub f68 (by simp) (by simp) (by simp))).trans (CHX.sub f85 (by simp) (by simp) (by simp))).trans (CHX.sub f106 (by simp) (by simp) (by simp))) (FI.actout2 hI (by omega) (by omega) f58 f56 f69 f70 g77w (ek114.trans f86) (by omega) (by omega) ew115 f107) (by rw [ew115, f107]; exact (wk_act hwk ⟨by omega, by omega⟩ hko (by omega) f58 f69 (ek114.trans f86)).1.rem (by omega)) (wk_act hwk ⟨by omega, by omega⟩ hko (by omega) f58 f69 (ek114.trans f86)).2 (by have z := f107; omega) rfl)
            · refine tn_iconst dX6_fold_103 ?_
              refine tn_goto (tgt := 108) dX6_fold_104 (by decide) ?_
              refine tn_iadd dX6_fold_108 ?_
              refine tn_istore_n (L' := [(2, .int (iI (i2 + 1))), (7, .int (iI z76)), (6, .int (iI v12)), (0, .ref a), (1, .ref rx1), (3, .int (iI i3)), (4, .int (iI c4)), (5, .int (iI i5))]) dX6_fold_109 rfl (by decide) rfl ?_
              refine tn_aload_n dX6_fold_110 rfl 3 rfl ?_
              refine tn_aload_n dX6_fold_111 rfl 4 rfl ?_
              refine tn_iload_n dX6_fold_112 rfl 5 rfl ?_
              have cv116 : σ64.2.1 (1000 + xk) = σ.2.1 (1000 + xk) := (CHX.r f68 (by first | (simp; done) | (simp only [List.mem_cons, List.not_mem_nil, or_false, not_or]; omega))).trans ((CHX.r f57 (by first | (simp; done) | (simp only [List.mem_cons, List.not_mem_nil, or_false, not_or]; omega))).trans (rfl))
              have cv117 : σ64.2.1 (1000 + xv) = σ.2.1 (1000 + xv) := (CHX.r f68 (by first | (simp; done) | (simp only [List.mem_cons, List.not_mem_nil, or_false, not_or]; omega))).trans ((CHX.r f57 (by first | (simp; done) | (simp only [List.mem_cons, List.not_mem_nil, or_false, not_or]; omega))).trans (rfl))
              refine tn_callV (M := m_X6_fold) (pc := 113) (ix := 53) (ci := 6) (M' := m_X6_learn) (As := [.ref rx1, .int (iI i3)]) (rest := []) dX6_fold_113 ok_X6_learn im_X6_learn se_X6_learn ml6_53 np_X6_learn rfl rfl h_a rfl (Nat.le_of_ble_eq_true rfl) (Nat.le_of_ble_eq_true rfl) rfl (k_X6_learn_x (d) (T := T) (σ := σ64) (a := a) (p1 := rx1) (p2 := i3) (x := x) (n := σ.2.1 6 rx1) (W := cW σ64 x (σ.2.1 6 rx1)) (xk := xk) (xv := xv) (Rk := σ.2.1 (1000 + xk)) (Rv := σ.2.1 (1000 + xv)) h_a h_rx1 t_rx1 (by omega) w72 (rc_F F73 (Or.inl (by decide)) (by decide) (rc_F F62 (Or.inl (by decide)) (by decide) (rc_F hF (Or.inl (by decide)) (by decide) (hx)))) (rc_F F73 (Or.inl (by decide)) (by decide) (rc_F F62 (Or.inl (by decide)) (by decide) (rfl))) rfl (rc_F F73 (Or.inl (by decide)) (by decide) (rc_F F62 (Or.inl (by decide)) (by decide) (rc_F hF (Or.inl (by decide)) (by decide) (hxk)))) (rc_F F73 (Or.inl (by decide)) (by decide) (rc_F F62 (Or.inl (by decide)) (by decide) (rc_F hF (Or.inl (by decide)) (by decide) (hxv)))) cv116 cv117 (by omega) (by omega) (by omega) (by obtain ⟨q1, q2, q3⟩ := two_it f58 f69; rw [q3]; exact faI_iOK (foO_iOK (hwk _ (by omega) (by omega)) hko (by omega)) (by rw [foO_0c]; omega))) (fun r118 T120 σ119 gt121 hp => ?_)
              obtain ⟨rfl, rfl, w125, F126, f122, f123⟩ := hp
              clear gt121
              show Tn _ _ 116 T σ119 [(2, .int (iI (i2 + 1))), (7, .int (iI z76)), (6, .int (iI v12)), (0, .ref a), (1, .ref rx1), (3, .int (iI i3)), (4, .int (iI c4)), (5, .int (iI i5))] [] _
              refine tn_aload_n dX6_fold_116 rfl 3 rfl ?_
              refine tn_aload_n dX6_fold_117 rfl 4 rfl ?_
              refine tn_iload_n dX6_fold_118 rfl 5 rfl ?_
              have cv127 : cW σ119 x (σ.2.1 6 rx1) = cW σ64 x (σ.2.1 6 rx1) := (cW_row (CHX.r f122 (by first | (simp; done) | (simp only [List.mem_cons, List.not_mem_nil, or_false, not_or]; omega)))).trans (rfl)
              refine tn_callV (M := m_X6_fold) (pc := 119) (ix := 56) (ci := 6) (M' := m_X6_goesOut) (As := [.ref rx1, .int (iI i3)]) (rest := []) dX6_fold_119 ok_X6_goesOut im_X6_goesOut se_X6_goesOut ml6_56 np_X6_goesOut rfl rfl h_a rfl (Nat.le_of_ble_eq_true rfl) (Nat.le_of_ble_eq_true rfl) rfl (k_X6_goesOut_x (d + 1) (T := T) (σ := σ119) (a := a) (p1 := rx1) (p2 := i3) (x := x) (n := σ.2.1 6 rx1) (W := cW σ64 x (σ.2.1 6 rx1)) h_a h_rx1 t_rx1 (by omega) w125 (rc_F F126 (Or.inl (by decide)) (by decide) (rc_F F73 (Or.inl (by decide)) (by decide) (rc_F F62 (Or.inl (by decide)) (by decide) (rc_F hF (Or.inl (by decide)) (by decide) (hx))))) (rc_F F126 (Or.inl (by decide)) (by decide) (rc_F F73 (Or.inl (by decide)) (by decide) (rc_F F62 (Or.inl (by decide)) (by decide) (rfl)))) cv127 (by omega)) (fun r128 T130 σ129 gt131 hp => ?_)
              obtain ⟨v134, rfl, rfl, rfl, f132, f133⟩ := hp
              clear gt131
              show Tn _ _ 122 T σ119 [(2, .int (iI (i2 + 1))), (7, .int (iI z76)), (6, .int (iI v12)), (0, .ref a), (1, .ref rx1), (3, .int (iI i3)), (4, .int (iI c4)), (5, .int (iI i5))] [.int (iI v134)] _
              refine tn_if_eq (tgt := 133) dX6_fold_122 (by decide) ⟨by omega, by omega⟩ (fun h135 => ?_) (fun h135 => ?_)
              · refine tn_iinc (q0 := 5) (L' := [(3, .int (iI (i3 + 1))), (2, .int (iI (i2 + 1))), (7, .int (iI z76)), (6, .int (iI v12)), (0, .ref a), (1, .ref rx1), (4, .int (iI c4)), (5, .int (iI i5))]) dX6_fold_133 rfl (by decide) rfl ?_
                refine tn_iinc (q0 := 7) (L' := [(5, .int (iI (i5 + 1))), (3, .int (iI (i3 + 1))), (2, .int (iI (i2 + 1))), (7, .int (iI z76)), (6, .int (iI v12)), (0, .ref a), (1, .ref rx1), (4, .int (iI c4))]) dX6_fold_136 rfl (by decide) rfl ?_
                refine tn_goto (tgt := 21) dX6_fold_139 (by decide) ?_
                have ek136 : kn2 (σ119.2.1 (1000 + xk)) (σ119.2.1 (1000 + xv)) = kn2 (σ119.2.1 (1000 + xk)) (σ119.2.1 (1000 + xv)) := by first | rfl | (rfl)
                have em137 : σ119.2.1 6 rx1 = σ.2.1 6 rx1 := rc_F F126 (Or.inl (by decide)) (by decide) (rc_F F73 (Or.inl (by decide)) (by decide) (rc_F F62 (Or.inl (by decide)) (by decide) (rfl)))
                have ew138 : cW σ119 x (σ119.2.1 6 rx1) = cW σ64 x (σ.2.1 6 rx1) := by first | (rw [em137]; done) | (rw [em137]; exact cv127)
                exact tn_sub [5, 6, 2, 1, 7, 0] rfl (ih _ (by omega) (i2 + 1) (i3 + 1) (i5 + 1) σ119 w125 ((((FrC.rfl.trans (FrC.sub hF (by decide))).trans (FrC.sub F62 (by decide))).trans (FrC.sub F73 (by decide))).trans (FrC.sub F126 (by decide))) (by omega) (by omega) (by omega) (((hC.trans (CHX.sub f57 (by simp) (by simp) (by simp))).trans (CHX.sub f68 (by simp) (by simp) (by simp))).trans (CHX.sub f122 (by simp) (by simp) (by simp))) (FI.act2 hI (by omega) (by omega) f58 f59 f56 f69 f70 g77w (ek136.trans f123) (by omega) (by omega) ew138 em137) (by rw [ew138, em137]; exact (wk_act hwk ⟨by omega, by omega⟩ hko (by omega) f58 f69 (ek136.trans f123)).1) (wk_act hwk ⟨by omega, by omega⟩ hko (by omega) f58 f69 (ek136.trans f123)).2 (by have z := em137; omega) rfl)
              · refine tn_aload_n dX6_fold_125 rfl 4 rfl ?_
                refine tn_iload_n dX6_fold_126 rfl 5 rfl ?_
                refine tn_callV (M := m_X6_fold) (pc := 127) (ix := 59) (ci := 1) (M' := m_X1_removeRow) (As := [.int (iI i3)]) (rest := []) dX6_fold_127 ok_X1_removeRow im_X1_removeRow se_X1_removeRow ml6_59 np_X1_removeRow rfl rfl h_rx1 rfl (Nat.le_of_ble_eq_true rfl) (Nat.le_of_ble_eq_true rfl) rfl (k_X1_removeRow_x (d + 2) (T := T) (σ := σ119) (a := rx1) (k := i3) (x := x) (n := σ.2.1 6 rx1) (W := cW σ64 x (σ.2.1 6 rx1)) h_rx1 t_rx1 (by omega) w125 (rc_F F126 (Or.inl (by decide)) (by decide) (rc_F F73 (Or.inl (by decide)) (by decide) (rc_F F62 (Or.inl (by decide)) (by decide) (rc_F hF (Or.inl (by decide)) (by decide) (hx))))) (rc_F F126 (Or.inl (by decide)) (by decide) (rc_F F73 (Or.inl (by decide)) (by decide) (rc_F F62 (Or.inl (by decide)) (by decide) (rfl)))) cv127 (by omega) (by omega)) (fun r139 T141 σ140 gt142 hp => ?_)
                obtain ⟨rfl, rfl, w147, F148, f143, f144, f145⟩ := hp
                clear gt142
                show Tn _ _ 130 T σ140 [(2, .int (iI (i2 + 1))), (7, .int (iI z76)), (6, .int (iI v12)), (0, .ref a), (1, .ref rx1), (3, .int (iI i3)), (4, .int (iI c4)), (5, .int (iI i5))] [] _
                refine tn_goto (tgt := 136) dX6_fold_130 (by decide) ?_
                refine tn_iinc (q0 := 7) (L' := [(5, .int (iI (i5 + 1))), (2, .int (iI (i2 + 1))), (7, .int (iI z76)), (6, .int (iI v12)), (0, .ref a), (1, .ref rx1), (3, .int (iI i3)), (4, .int (iI c4))]) dX6_fold_136 rfl (by decide) rfl ?_
                refine tn_goto (tgt := 21) dX6_fold_139 (by decide) ?_
                have cv149 : σ140.2.1 (1000 + xk) = σ119.2.1 (1000 + xk) := (CHX.r f143 (by first | (simp; done) | (simp only [List.mem_cons, List.not_mem_nil, or_false, not_or]; omega))).trans (rfl)
                have cv150 : σ140.2.1 (1000 + xv) = σ119.2.1 (1000 + xv) := (CHX.r f143 (by first | (simp; done) | (simp only [List.mem_cons, List.not_mem_nil, or_false, not_or]; omega))).trans (rfl)
                have ek151 : kn2 (σ140.2.1 (1000 + xk)) (σ140.2.1 (1000 + xv)) = kn2 (σ119.2.1 (1000 + xk)) (σ119.2.1 (1000 + xv)) := by first | rfl | (rw [cv149, cv150])
                have ew152 := cW_n f144 f145
                exact tn_sub [4, 5, 1, 6, 7, 0] rfl (ih _ (by omega) (i2 + 1) (i3) (i5 + 1) σ140 w147 (((((FrC.rfl.trans (FrC.sub hF (by decide))).trans (FrC.sub F62 (by decide))).trans (FrC.sub F73 (by decide))).trans (FrC.sub F126 (by decide))).trans (FrC.sub F148 (by decide))) (by omega) (by omega) (by omega) ((((hC.trans (CHX.sub f57 (by simp) (by simp) (by simp))).trans (CHX.sub f68 (by simp) (by simp) (by simp))).trans (CHX.sub f122 (by simp) (by simp) (by simp))).trans (CHX.sub f143 (by simp) (by simp) (by simp))) (FI.actout2 hI (by omega) (by omega) f58 f56 f69 f70 g77w (ek151.trans f123) (by omega) (by omega) ew152 f144) (by rw [ew152, f144]; exact (wk_act hwk ⟨by omega, by omega⟩ hko (by omega) f58 f69 (ek151.trans f123)).1.rem (by omega)) (wk_act hwk ⟨by omega, by omega⟩ hko (by omega) f58 f69 (ek151.trans f123)).2 (by have z := f144; omega) rfl)
        · refine tn_aload_n dX6_fold_61 rfl 1 rfl ?_
          refine tn_aload_n dX6_fold_62 rfl 2 rfl ?_
          refine tn_iload_n dX6_fold_63 rfl 4 rfl ?_
          obtain ⟨hk155, hl156⟩ : AR T xk 1 192 192 := ar_of (wf_52 hw0 h_a) hxk
          have hk155i : IA T xk := by unfold IA; omega
          obtain ⟨hk159, hl160⟩ : AR T xv 1 192 192 := ar_of (wf_53 hw0 h_a) hxv
          have hk159i : IA T xv := by unfold IA; omega
          refine tn_callV (M := m_X6_fold) (pc := 64) (ix := 38) (ci := 6) (M' := m_X6_foldBind) (As := [.ref rx1, .int (iI i3)]) (rest := []) dX6_fold_64 ok_X6_foldBind im_X6_foldBind se_X6_foldBind ml6_38 np_X6_foldBind rfl rfl h_a rfl (Nat.le_of_ble_eq_true rfl) (Nat.le_of_ble_eq_true rfl) rfl (k_X6_foldBind_x (d) (T := T) (σ := σ) (a := a) (p1 := rx1) (p2 := i3) (x := x) (n := σ.2.1 6 rx1) (W := cW σ x (σ.2.1 6 rx1)) (xk := xk) (xv := xv) (Rk := σ.2.1 (1000 + xk)) (Rv := σ.2.1 (1000 + xv)) h_a h_rx1 t_rx1 (by omega) hw (rc_F hF (Or.inl (by decide)) (by decide) (hx)) (rfl) rfl (rc_F hF (Or.inl (by decide)) (by decide) (hxk)) (rc_F hF (Or.inl (by decide)) (by decide) (hxv)) rfl rfl (by omega) (by omega) (by omega)) (fun r161 T163 σ162 gt164 hp => ?_)
          obtain ⟨rfl, rfl, w168, F169, f165, f166⟩ := hp
          clear gt164
          show Tn _ _ 67 T σ162 [(6, .int (iI v12)), (0, .ref a), (1, .ref rx1), (2, .int (iI i2)), (3, .int (iI i3)), (4, .int (iI c4)), (5, .int (iI i5))] [] _
          refine tn_goto (tgt := 116) dX6_fold_67 (by decide) ?_
          refine tn_aload_n dX6_fold_116 rfl 1 rfl ?_
          refine tn_aload_n dX6_fold_117 rfl 2 rfl ?_
          refine tn_iload_n dX6_fold_118 rfl 4 rfl ?_
          refine tn_callV (M := m_X6_fold) (pc := 119) (ix := 56) (ci := 6) (M' := m_X6_goesOut) (As := [.ref rx1, .int (iI i3)]) (rest := []) dX6_fold_119 ok_X6_goesOut im_X6_goesOut se_X6_goesOut ml6_56 np_X6_goesOut rfl rfl h_a rfl (Nat.le_of_ble_eq_true rfl) (Nat.le_of_ble_eq_true rfl) rfl (k_X6_goesOut_x (d + 1) (T := T) (σ := σ162) (a := a) (p1 := rx1) (p2 := i3) (x := x) (n := σ.2.1 6 rx1) (W := cW σ162 x (σ.2.1 6 rx1)) h_a h_rx1 t_rx1 (by omega) w168 (rc_F F169 (Or.inl (by decide)) (by decide) (rc_F hF (Or.inl (by decide)) (by decide) (hx))) (rc_F F169 (Or.inl (by decide)) (by decide) (rfl)) rfl (by omega)) (fun r170 T172 σ171 gt173 hp => ?_)
          obtain ⟨v176, rfl, rfl, rfl, f174, f175⟩ := hp
          clear gt173
          show Tn _ _ 122 T σ162 [(6, .int (iI v12)), (0, .ref a), (1, .ref rx1), (2, .int (iI i2)), (3, .int (iI i3)), (4, .int (iI c4)), (5, .int (iI i5))] [.int (iI v176)] _
          refine tn_if_eq (tgt := 133) dX6_fold_122 (by decide) ⟨by omega, by omega⟩ (fun h177 => ?_) (fun h177 => ?_)
          · refine tn_iinc (q0 := 4) (L' := [(3, .int (iI (i3 + 1))), (6, .int (iI v12)), (0, .ref a), (1, .ref rx1), (2, .int (iI i2)), (4, .int (iI c4)), (5, .int (iI i5))]) dX6_fold_133 rfl (by decide) rfl ?_
            refine tn_iinc (q0 := 6) (L' := [(5, .int (iI (i5 + 1))), (3, .int (iI (i3 + 1))), (6, .int (iI v12)), (0, .ref a), (1, .ref rx1), (2, .int (iI i2)), (4, .int (iI c4))]) dX6_fold_136 rfl (by decide) rfl ?_
            refine tn_goto (tgt := 21) dX6_fold_139 (by decide) ?_
            have em178 : σ162.2.1 6 rx1 = σ.2.1 6 rx1 := rc_F F169 (Or.inl (by decide)) (by decide) (rfl)
            have ew179 : cW σ162 x (σ162.2.1 6 rx1) = cW σ162 x (σ.2.1 6 rx1) := by first | (rw [em178]; done) | (rw [em178]; exact rfl)
            have cv180 : σ162.2.1 (1000 + xk) = σ.2.1 (1000 + xk) := (CHX.r f165 (by first | (simp; done) | (simp only [List.mem_cons, List.not_mem_nil, or_false, not_or]; omega))).trans (rfl)
            have cv181 : σ162.2.1 (1000 + xv) = σ.2.1 (1000 + xv) := (CHX.r f165 (by first | (simp; done) | (simp only [List.mem_cons, List.not_mem_nil, or_false, not_or]; omega))).trans (rfl)
            have ek182 : kn2 (σ162.2.1 (1000 + xk)) (σ162.2.1 (1000 + xv)) = kn2 (σ.2.1 (1000 + xk)) (σ.2.1 (1000 + xv)) := by first | rfl | (rw [cv180, cv181])
            exact tn_sub [3, 4, 5, 1, 6, 0] rfl (ih _ (by omega) (i2) (i3 + 1) (i5 + 1) σ162 w168 ((FrC.rfl.trans (FrC.sub hF (by decide))).trans (FrC.sub F169 (by decide))) (by omega) (by omega) (by omega) (hC.trans (CHX.sub f165 (by simp) (by simp) (by simp))) (FI.bind2 hI (by omega) (hwk _ (by omega) (by omega)) (by omega) (ew179.trans f166) ek182 em178) (by rw [ew179, em178, f166]; exact hwk.put (iOK_fb (hwk _ (by omega) (by omega)) (by omega))) (by rw [ek182]; exact hko) (by have z := em178; omega) rfl)
          · refine tn_aload_n dX6_fold_125 rfl 2 rfl ?_
            refine tn_iload_n dX6_fold_126 rfl 4 rfl ?_
            refine tn_callV (M := m_X6_fold) (pc := 127) (ix := 59) (ci := 1) (M' := m_X1_removeRow) (As := [.int (iI i3)]) (rest := []) dX6_fold_127 ok_X1_removeRow im_X1_removeRow se_X1_removeRow ml6_59 np_X1_removeRow rfl rfl h_rx1 rfl (Nat.le_of_ble_eq_true rfl) (Nat.le_of_ble_eq_true rfl) rfl (k_X1_removeRow_x (d + 2) (T := T) (σ := σ162) (a := rx1) (k := i3) (x := x) (n := σ.2.1 6 rx1) (W := cW σ162 x (σ.2.1 6 rx1)) h_rx1 t_rx1 (by omega) w168 (rc_F F169 (Or.inl (by decide)) (by decide) (rc_F hF (Or.inl (by decide)) (by decide) (hx))) (rc_F F169 (Or.inl (by decide)) (by decide) (rfl)) rfl (by omega) (by omega)) (fun r183 T185 σ184 gt186 hp => ?_)
            obtain ⟨rfl, rfl, w191, F192, f187, f188, f189⟩ := hp
            clear gt186
            show Tn _ _ 130 T σ184 [(6, .int (iI v12)), (0, .ref a), (1, .ref rx1), (2, .int (iI i2)), (3, .int (iI i3)), (4, .int (iI c4)), (5, .int (iI i5))] [] _
            refine tn_goto (tgt := 136) dX6_fold_130 (by decide) ?_
            refine tn_iinc (q0 := 6) (L' := [(5, .int (iI (i5 + 1))), (6, .int (iI v12)), (0, .ref a), (1, .ref rx1), (2, .int (iI i2)), (3, .int (iI i3)), (4, .int (iI c4))]) dX6_fold_136 rfl (by decide) rfl ?_
            refine tn_goto (tgt := 21) dX6_fold_139 (by decide) ?_
            exact tn_sub [2, 3, 4, 5, 6, 0] rfl (ih _ (by omega) (i2) (i3) (i5 + 1) σ184 w191 (((FrC.rfl.trans (FrC.sub hF (by decide))).trans (FrC.sub F169 (by decide))).trans (FrC.sub F192 (by decide))) (by omega) (by omega) (by omega) ((hC.trans (CHX.sub f165 (by simp) (by simp) (by simp))).trans (CHX.sub f187 (by simp) (by simp) (by simp))) (False.elim (by have z := congrFun (congrFun f166 i3) 0; rw [uZ_eq, fb_0] at z; omega)) (False.elim (by have z := congrFun (congrFun f166 i3) 0; rw [uZ_eq, fb_0] at z; omega)) (False.elim (by have z := congrFun (congrFun f166 i3) 0; rw [uZ_eq, fb_0] at z; omega)) (False.elim (by have z := congrFun (congrFun f166 i3) 0; rw [uZ_eq, fb_0] at z; omega)) rfl)
      · refine tn_aload_n dX6_fold_43 rfl 1 rfl ?_
        obtain ⟨hk195, hl196⟩ : AR T xk 1 192 192 := ar_of (wf_52 hw0 h_a) hxk
        have hk195i : IA T xk := by unfold IA; omega
        refine tn_getR (ci := 6) (i := 0) (n := 52) (x := xk) dX6_fold_44 rfl lay_6 (by decide) fl6_9 h_a rfl rfl (rc_F hF (Or.inl (by decide)) (by decide) (hxk)) ?_
        refine tn_iconst dX6_fold_47 ?_
        refine tn_callS (M := m_X6_fold) (pc := 48) (ix := 28) (M' := m_J7_fill_53178) (As := [.ref xk, .int (iI 0)]) (rest := []) dX6_fold_48 ok_J7_fill_53178 stt_J7_fill_53178 ml6_28 np_J7_fill_53178 rfl (Nat.le_of_ble_eq_true rfl) (Nat.le_of_ble_eq_true rfl) rfl (k_J7_fill_53178_x (d + 2) (T := T) (σ := σ) (x := xk) (y := 0) hk195i (by omega) (by decide) hw (nh_k hk195 (by unfold HT; omega)) (by omega)) (fun r197 T199 σ198 gt200 hp => ?_)
        obtain ⟨rfl, rfl, w204, F205, f201, f202⟩ := hp
        clear gt200
        show Tn _ _ 51 T σ198 [(6, .int (iI v12)), (0, .ref a), (1, .ref rx1), (2, .int (iI i2)), (3, .int (iI i3)), (4, .int (iI c4)), (5, .int (iI i5))] [] _
        refine tn_goto (tgt := 116) dX6_fold_51 (by decide) ?_
        refine tn_aload_n dX6_fold_116 rfl 1 rfl ?_
        refine tn_aload_n dX6_fold_117 rfl 2 rfl ?_
        refine tn_iload_n dX6_fold_118 rfl 4 rfl ?_
        have cv206 : cW σ198 x (σ.2.1 6 rx1) = cW σ x (σ.2.1 6 rx1) := (cW_row (CHX.r f201 (by first | (simp; done) | (simp only [List.mem_cons, List.not_mem_nil, or_false, not_or]; omega)))).trans (rfl)
        refine tn_callV (M := m_X6_fold) (pc := 119) (ix := 56) (ci := 6) (M' := m_X6_goesOut) (As := [.ref rx1, .int (iI i3)]) (rest := []) dX6_fold_119 ok_X6_goesOut im_X6_goesOut se_X6_goesOut ml6_56 np_X6_goesOut rfl rfl h_a rfl (Nat.le_of_ble_eq_true rfl) (Nat.le_of_ble_eq_true rfl) rfl (k_X6_goesOut_x (d + 1) (T := T) (σ := σ198) (a := a) (p1 := rx1) (p2 := i3) (x := x) (n := σ.2.1 6 rx1) (W := cW σ x (σ.2.1 6 rx1)) h_a h_rx1 t_rx1 (by omega) w204 (rc_F F205 (Or.inl (by decide)) (by decide) (rc_F hF (Or.inl (by decide)) (by decide) (hx))) (rc_F F205 (Or.inl (by decide)) (by decide) (rfl)) cv206 (by omega)) (fun r207 T209 σ208 gt210 hp => ?_)
        obtain ⟨v213, rfl, rfl, rfl, f211, f212⟩ := hp
        clear gt210
        show Tn _ _ 122 T σ198 [(6, .int (iI v12)), (0, .ref a), (1, .ref rx1), (2, .int (iI i2)), (3, .int (iI i3)), (4, .int (iI c4)), (5, .int (iI i5))] [.int (iI v213)] _
        refine tn_if_eq (tgt := 133) dX6_fold_122 (by decide) ⟨by omega, by omega⟩ (fun h214 => ?_) (fun h214 => ?_)
        · refine tn_iinc (q0 := 4) (L' := [(3, .int (iI (i3 + 1))), (6, .int (iI v12)), (0, .ref a), (1, .ref rx1), (2, .int (iI i2)), (4, .int (iI c4)), (5, .int (iI i5))]) dX6_fold_133 rfl (by decide) rfl ?_
          refine tn_iinc (q0 := 6) (L' := [(5, .int (iI (i5 + 1))), (3, .int (iI (i3 + 1))), (6, .int (iI v12)), (0, .ref a), (1, .ref rx1), (2, .int (iI i2)), (4, .int (iI c4))]) dX6_fold_136 rfl (by decide) rfl ?_
          refine tn_goto (tgt := 21) dX6_fold_139 (by decide) ?_
          have em215 : σ198.2.1 6 rx1 = σ.2.1 6 rx1 := rc_F F205 (Or.inl (by decide)) (by decide) (rfl)
          have ew216 : cW σ198 x (σ198.2.1 6 rx1) = cW σ x (σ.2.1 6 rx1) := by first | (rw [em215]; done) | (rw [em215]; exact cv206)
          have cv217 : σ198.2.1 (1000 + xv) = σ.2.1 (1000 + xv) := (CHX.r f201 (by first | (simp; done) | (simp only [List.mem_cons, List.not_mem_nil, or_false, not_or]; omega))).trans (rfl)
          have ek218 : kn2 (σ198.2.1 (1000 + xk)) (σ198.2.1 (1000 + xv)) = fun _ => (0, 0) := kn2_z (fun j a b => by exact f202.z a (by omega))
          exact tn_sub [3, 4, 5, 1, 6, 0] rfl (ih _ (by omega) (i2) (i3 + 1) (i5 + 1) σ198 w204 ((FrC.rfl.trans (FrC.sub hF (by decide))).trans (FrC.sub F205 (by decide))) (by omega) (by omega) (by omega) (hC.trans (CHX.sub f201 (by simp) (by simp) (by simp))) (FI.label2 hI (by omega) (by omega) ew216 ek218 em215) (by rw [ew216, em215]; exact hwk) (by rw [ek218]; exact KNO.z) (by have z := em215; omega) rfl)
        · refine tn_aload_n dX6_fold_125 rfl 2 rfl ?_
          refine tn_iload_n dX6_fold_126 rfl 4 rfl ?_
          refine tn_callV (M := m_X6_fold) (pc := 127) (ix := 59) (ci := 1) (M' := m_X1_removeRow) (As := [.int (iI i3)]) (rest := []) dX6_fold_127 ok_X1_removeRow im_X1_removeRow se_X1_removeRow ml6_59 np_X1_removeRow rfl rfl h_rx1 rfl (Nat.le_of_ble_eq_true rfl) (Nat.le_of_ble_eq_true rfl) rfl (k_X1_removeRow_x (d + 2) (T := T) (σ := σ198) (a := rx1) (k := i3) (x := x) (n := σ.2.1 6 rx1) (W := cW σ x (σ.2.1 6 rx1)) h_rx1 t_rx1 (by omega) w204 (rc_F F205 (Or.inl (by decide)) (by decide) (rc_F hF (Or.inl (by decide)) (by decide) (hx))) (rc_F F205 (Or.inl (by decide)) (by decide) (rfl)) cv206 (by omega) (by omega)) (fun r219 T221 σ220 gt222 hp => ?_)
          obtain ⟨rfl, rfl, w227, F228, f223, f224, f225⟩ := hp
          clear gt222
          show Tn _ _ 130 T σ220 [(6, .int (iI v12)), (0, .ref a), (1, .ref rx1), (2, .int (iI i2)), (3, .int (iI i3)), (4, .int (iI c4)), (5, .int (iI i5))] [] _
          refine tn_goto (tgt := 136) dX6_fold_130 (by decide) ?_
          refine tn_iinc (q0 := 6) (L' := [(5, .int (iI (i5 + 1))), (6, .int (iI v12)), (0, .ref a), (1, .ref rx1), (2, .int (iI i2)), (3, .int (iI i3)), (4, .int (iI c4))]) dX6_fold_136 rfl (by decide) rfl ?_
          refine tn_goto (tgt := 21) dX6_fold_139 (by decide) ?_
          exact tn_sub [2, 3, 4, 5, 6, 0] rfl (ih _ (by omega) (i2) (i3) (i5 + 1) σ220 w227 (((FrC.rfl.trans (FrC.sub hF (by decide))).trans (FrC.sub F205 (by decide))).trans (FrC.sub F228 (by decide))) (by omega) (by omega) (by omega) ((hC.trans (CHX.sub f201 (by simp) (by simp) (by simp))).trans (CHX.sub f223 (by simp) (by simp) (by simp))) (False.elim (by omega)) (False.elim (by omega)) (False.elim (by omega)) (False.elim (by omega)) rfl)
set_option maxHeartbeats 1000000 in
set_option maxRecDepth 20000 in
theorem k_X6_fold_x (d : Nat) {T : CT} {σ : MS} {a : Nat} {p1 : Nat} {x : Nat} {n : Int} {W : Int → It} {xk : Nat} {xv : Nat} {Rk : Int → Int} {Rv : Int → Int} (ha : OB T a 6) (h_p1 : OB T p1 1) (t_p1 : (T p1).1 = 50) (hw : WT T σ) (hx : σ.2.1 5 p1 = (x : Int)) (hn : σ.2.1 6 p1 = n) (hW : cW σ x n = W) (hxk : σ.2.1 52 a = (xk : Int)) (hxv : σ.2.1 53 a = (xv : Int)) (hRk : σ.2.1 (1000 + xk) = Rk) (hRv : σ.2.1 (1000 + xv) = Rv) (hN : n ≤ 200) (hne : xk ≠ x ∧ xv ≠ x ∧ xk ≠ xv) (hwok : WOK W n) : Tn (d + 4) m_X6_fold 0 T σ [(0, .ref a), (1, .ref p1)] [] (fun ro T2 σ2 => ∃ v : Int, ro = some (.int (iI v)) ∧ T = T2 ∧ WT T2 σ2 ∧ FrC T [6] σ σ2 ∧ (-2147483648 ≤ v ∧ v ≤ 2147483647) ∧ (CHX [(6, p1)] [x, xk, xv] [] σ σ2) ∧ (∃ K, foS (vW W) n.toNat = (K, σ2.2.1 6 p1, v, vW (cW σ2 x (σ2.2.1 6 p1)))) ∧ (WOK (cW σ2 x (σ2.2.1 6 p1)) (σ2.2.1 6 p1)) ∧ (0 ≤ σ2.2.1 6 p1 ∧ σ2.2.1 6 p1 ≤ 200)) := by
  have h6 := wf_6 hw h_p1
  refine tn_iconst dX6_fold_0 ?_
  refine tn_istore_n (L' := [(2, .int (iI 0)), (0, .ref a), (1, .ref p1)]) dX6_fold_1 rfl (by decide) rfl ?_
  refine tn_iconst dX6_fold_2 ?_
  refine tn_istore_n (L' := [(3, .int (iI 0)), (2, .int (iI 0)), (0, .ref a), (1, .ref p1)]) dX6_fold_3 rfl (by decide) rfl ?_
  refine tn_aload_n dX6_fold_4 rfl 3 rfl ?_
  refine tn_getI (ci := 1) (i := 1) (n := 6) (t := σ.2.1 6 p1) dX6_fold_5 rfl lay_1 (by decide) fl6_22 h_p1 rfl rfl (rfl) ?_
  have g1 : ((0 : Int) ≤ σ.2.1 6 p1 ∧ σ.2.1 6 p1 ≤ 5000) ∧ ((T p1).1 = 50 → σ.2.1 6 p1 ≤ 200) := wf_6 hw h_p1
  have g1x := g1.2
  replace g1 := g1.1
  have g1x := g1x t_p1
  refine tn_istore (L' := [(4, .int (iI (σ.2.1 6 p1))), (3, .int (iI 0)), (2, .int (iI 0)), (0, .ref a), (1, .ref p1)]) dX6_fold_8 (by decide) rfl ?_
  refine tn_aload_n dX6_fold_10 rfl 3 rfl ?_
  obtain ⟨hk4, hl5⟩ : AR T xk 1 192 192 := ar_of (wf_52 hw ha) hxk
  have hk4i : IA T xk := by unfold IA; omega
  refine tn_getR (ci := 6) (i := 0) (n := 52) (x := xk) dX6_fold_11 rfl lay_6 (by decide) fl6_9 ha rfl rfl (hxk) ?_
  refine tn_iconst dX6_fold_14 ?_
  refine tn_callS (M := m_X6_fold) (pc := 15) (ix := 28) (M' := m_J7_fill_53178) (As := [.ref xk, .int (iI 0)]) (rest := []) dX6_fold_15 ok_J7_fill_53178 stt_J7_fill_53178 ml6_28 np_J7_fill_53178 rfl (Nat.le_of_ble_eq_true rfl) (Nat.le_of_ble_eq_true rfl) rfl (k_J7_fill_53178_x (d + 2) (T := T) (σ := σ) (x := xk) (y := 0) hk4i (by omega) (by decide) hw (nh_k hk4 (by unfold HT; omega)) (by omega)) (fun r6 T8 σ7 gt9 hp => ?_)
  obtain ⟨rfl, rfl, w13, F14, f10, f11⟩ := hp
  clear gt9
  show Tn _ _ 18 T σ7 [(4, .int (iI (σ.2.1 6 p1))), (3, .int (iI 0)), (2, .int (iI 0)), (0, .ref a), (1, .ref p1)] [] _
  refine tn_iconst dX6_fold_18 ?_
  refine tn_istore (L' := [(5, .int (iI 0)), (4, .int (iI (σ.2.1 6 p1))), (3, .int (iI 0)), (2, .int (iI 0)), (0, .ref a), (1, .ref p1)]) dX6_fold_19 (by decide) rfl ?_
  have cv15 : cW σ7 x n = W := (cW_row (CHX.r f10 (by first | (simp; done) | (simp only [List.mem_cons, List.not_mem_nil, or_false, not_or]; omega)))).trans (hW)
  have cv16 : σ7.2.1 (1000 + xv) = Rv := (CHX.r f10 (by first | (simp; done) | (simp only [List.mem_cons, List.not_mem_nil, or_false, not_or]; omega))).trans (hRv)
  have em17 : σ7.2.1 6 p1 = n := rc_F F14 (Or.inl (by decide)) (by decide) (hn)
  have kz18 : kn2 (σ7.2.1 (1000 + xk)) (σ7.2.1 (1000 + xv)) = fun _ => (0, 0) := kn2_z (fun j a b => f11.z a (by omega))
  refine tn_sub [4, 5, 3, 2, 1, 0] rfl (l_X6_fold_x_21 (d) (T := T) (σ0 := σ7) (a := a) (rx1 := p1) (c4 := σ.2.1 6 p1) (x := x) (n := n) (W := W) (xk := xk) (xv := xv) (Rk := Rk) (Rv := Rv) ha h_p1 t_p1 (by omega) w13 (rc_F F14 (Or.inl (by decide)) (by decide) (hx)) (rc_F F14 (Or.inl (by decide)) (by decide) (hxk)) (rc_F F14 (Or.inl (by decide)) (by decide) (hxv)) hN hne (fun i219 i320 i521 σ22 w25 F26 r27 r28 r29 f30 f31 f32 f33 f34 f35 => ?_) _ (0) (0) (0) σ7 w13 FrC.rfl (by omega) (by omega) (by omega) CHX.rfl (by rw [em17, kz18, cv15, show σ.2.1 6 p1 = n from hn]; exact FI.nil rfl (by omega)) (by rw [em17, cv15]; exact hwok) (by rw [kz18]; exact KNO.z) (by rw [em17]; omega) rfl)
  show Tn _ _ 142 T σ22 [(0, .ref a), (1, .ref p1), (2, .int (iI i219)), (3, .int (iI i320)), (4, .int (iI (σ.2.1 6 p1))), (5, .int (iI i521))] [] _
  refine tn_iload_n dX6_fold_142 rfl 2 rfl ?_
  exact tn_iret rfl dX6_fold_143 ⟨_, rfl, rfl, w25, ((FrC.rfl.trans (FrC.sub F14 (by decide))).trans (FrC.sub F26 (by decide))), by omega, ((CHX.rfl.trans (CHX.sub f10 (by simp) (by simp) (by simp))).trans (CHX.sub f30 (by simp) (by simp) (by simp))), ⟨_, by have z := f31.fin (by omega) (fun j q => cW_off q); rw [show σ.2.1 6 p1 = n from hn] at z; exact z⟩, f32, (by have z := f34; omega)⟩
end
section
def hmC (F : Int) (Rn Rh : Int → Int) (g : Int) : Prop := ∃ f, 0 ≤ f ∧ f < F ∧ ∃ m, 0 ≤ m ∧ m < Rn f ∧ Rh (12 * f + m) = g
def NHM (Rn Rh : Int → Int) (r f m : Int) : Prop := (∀ i, 0 ≤ i → i < f → ∀ j, 0 ≤ j → j < Rn i → Rh (12 * i + j) ≠ r) ∧ ∀ j, 0 ≤ j → j < m → Rh (12 * f + j) ≠ r
section HMS
variable {F r f m : Int} {Rn Rh : Int → Int}
theorem NHM.nil : NHM Rn Rh r 0 0 := ⟨fun i a b => by omega, fun j a b => by omega⟩
theorem NHM.more (h : NHM Rn Rh r f m) (q : Rh (12 * f + m) ≠ r) : NHM Rn Rh r f (m + 1) := ⟨h.1, fun j a b => by
  by_cases e : j = m
  · rw [e]; exact q
  · exact h.2 j a (by omega)⟩
theorem NHM.next (h : NHM Rn Rh r f m) (q : Rn f ≤ m) : NHM Rn Rh r (f + 1) 0 := ⟨fun i a b j c d => by
  by_cases e : i = f
  · subst e; exact h.2 j c (by omega)
  · exact h.1 i a (by omega) j c d, fun j a b => by omega⟩
theorem NHM.no (h : NHM Rn Rh r f m) (q : F ≤ f) : ¬ hmC F Rn Rh r := fun ⟨i, a, b, j, c, d, e⟩ => h.1 i a (by omega) j c d e
end HMS
def LJQ (W : Int → It) (n p v : Int) : Prop := (v = -1 ∧ ∀ i, p < i → i < n → ¬ (W i 0 = 8 ∧ W i 1 = W p 1)) ∨ ((p < v ∧ v < n) ∧ (W v 0 = 8 ∧ W v 1 = W p 1) ∧ ∀ i, v < i → i < n → ¬ (W i 0 = 8 ∧ W i 1 = W p 1))
def NJB (W : Int → It) (n p k : Int) : Prop := ∀ i, k < i → i < n → ¬ (W i 0 = 8 ∧ W i 1 = W p 1)
def WCS (W : Int → It) (f t : Int) (L : Int → Int64) : Prop := ∀ g, bT L 0 g ↔ ∃ u, f ≤ u ∧ u ≤ t ∧ wrT (W u) g
def OWQ (W : Int → It) (n k : Int) : Prop := ∀ i, 0 ≤ i → i < n → i ≠ k → ¬ wrT (W i) (W k 1)
section MVS
variable {W W2 : Int → It} {n p q k f t r v u : Int} {L L2 : Int → Int64} {H : Int → Prop}
theorem NJB.step (h : NJB W n p k) (q : ¬ (W k 0 = 8 ∧ W k 1 = W p 1)) : NJB W n p (k - 1) := fun i a b => by
  by_cases e : i = k
  · rw [e]; exact q
  · exact h i (by omega) b
theorem WCS.nil (h : ∀ g, ¬ bT L 0 g) (e : t < f) : WCS W f t L := fun g => ⟨fun q => absurd q (h g), fun ⟨u, a, b, _⟩ => by omega⟩
theorem WCS.step (h : WCS W f (k - 1) L) (hw : WOK W n) (hf : f ≤ k) (hk : 0 ≤ k ∧ k < n) (hb : WBQ W n k r) (e : BTI L L2 0 r) : WCS W f k L2 := fun g => by
  have w := wb_wr (g := g) (hw k hk.1 hk.2) hk hb
  rw [e 0 g, h g]
  constructor
  · rintro (⟨u, a, b, c⟩ | ⟨-, c⟩)
    · exact ⟨u, a, by omega, c⟩
    · exact ⟨k, hf, by omega, w.mp c⟩
  · rintro ⟨u, a, b, c⟩
    by_cases y : u = k
    · subst y; exact Or.inr ⟨rfl, w.mpr c⟩
    · exact Or.inl ⟨u, a, by omega, c⟩
theorem WCS.to (h : WCS W f k L) (e : k = t) : WCS W f t L := by rw [← e]; exact h
theorem WCS.nw (h : WCS W p q L) {g : Int} : ¬ bT L 0 g ↔ nwB (vW W) p q g := by
  unfold nwB
  rw [h g]
  exact ⟨fun y u a b c => y ⟨u, a, b, wrT_v.mp c⟩, fun y ⟨u, a, b, c⟩ => y u a b (wrT_v.mpr c)⟩
theorem mvK_iff (h : WCS W p q L) (hw : WOK W n) (hk : 0 ≤ k ∧ k < n) : mvK H n (vW W) p q k ↔ W k 0 ≤ 5 ∧ (¬ (W k 3 = 2 ∧ bT L 0 (W k 4)) ∧ ¬ (W k 5 = 2 ∧ bT L 0 (W k 6))) ∧ ¬ H (W k 1) ∧ OWQ W n k := by
  unfold mvK OWQ
  rw [vW_0, vW_1]
  constructor
  · rintro ⟨a, b, c, d⟩
    have z : W k 0 ≠ 12 := by omega
    refine ⟨a, ⟨fun y => ?_, fun y => ?_⟩, b, fun i x y w => fun s => c i x y w (wrT_v.mpr s)⟩
    · have e := d 0 (by decide) (by decide) (by show vW W k 3 = 2; rw [vW_3 z]; exact y.1)
      exact h.nw.mpr e (by show bT L 0 (vW W k 4); rw [vW_ne (by decide) (by decide)]; exact y.2)
    · have e := d 1 (by decide) (by decide) (by show vW W k 5 = 2; rw [vW_ne (by decide) (by decide)]; exact y.1)
      exact h.nw.mpr e (by show bT L 0 (vW W k 6); rw [vW_ne (by decide) (by decide)]; exact y.2)
  · rintro ⟨a, ⟨b3, b5⟩, c, d⟩
    have z : W k 0 ≠ 12 := by omega
    have z7 := (hw k hk.1 hk.2).2.2.2.1 (by omega)
    refine ⟨a, c, fun i x y w => fun s => d i x y w (wrT_v.mp s), fun u x y e => ?_⟩
    have : u = 0 ∨ u = 1 ∨ u = 2 ∨ u = 3 := by omega
    rcases this with rfl | rfl | rfl | rfl
    · refine h.nw.mp (fun w => b3 ⟨?_, ?_⟩)
      · rw [← vW_3 z]; exact e
      · have w2 : bT L 0 (vW W k 4) := w
        rw [vW_ne (by decide) (by decide)] at w2; exact w2
    · refine h.nw.mp (fun w => b5 ⟨?_, ?_⟩)
      · have e2 : vW W k 5 = 2 := e
        rw [vW_ne (by decide) (by decide)] at e2; exact e2
      · have w2 : bT L 0 (vW W k 6) := w
        rw [vW_ne (by decide) (by decide)] at w2; exact w2
    · have e2 : vW W k 7 = 2 := e
      rw [vW_ne (by decide) (by decide)] at e2; exact absurd e2 z7.1
    · have e2 : vW W k 9 = 2 := e
      rw [vW_ne (by decide) (by decide)] at e2; exact absurd e2 z7.2
def FMQ (H : Int → Prop) (n : Int) (V : Int → It) (p q v : Int) : Prop := (v = -1 ∧ mvN H n V p q) ∨ (0 ≤ v ∧ mv1 H n V p q v)
def NMV (H : Int → Prop) (n : Int) (V : Int → It) (p q k : Int) : Prop := ∀ i, p ≤ i → i < k → ¬ mvK H n V p q i
theorem NMV.step {V : Int → It} (h : NMV H n V p q k) (y : ¬ mvK H n V p q k) : NMV H n V p q (k + 1) := fun i a b => by
  by_cases e : i = k
  · rw [e]; exact y
  · exact h i a (by omega)
theorem NMV.none {V : Int → It} (h : NMV H n V p q k) (y : q < k) : FMQ H n V p q (-1) := Or.inl ⟨rfl, fun i a b => h i a (by omega)⟩
theorem NMV.some {V : Int → It} (h : NMV H n V p q k) (a : 0 ≤ p ∧ p ≤ k ∧ k ≤ q) (y : mvK H n V p q k) : FMQ H n V p q k := Or.inr ⟨by omega, a.2.1, a.2.2, y, h⟩
theorem vW_li : vW (liV W k p) = liV (vW W) k p := by
  funext i
  show nrm (liV W k p i) = _
  unfold liV
  by_cases a : i = p
  · rw [if_pos a, if_pos a]; rfl
  · rw [if_neg a, if_neg a]
    by_cases b : p < i ∧ i ≤ k
    · rw [if_pos b, if_pos b]; rfl
    · rw [if_neg b, if_neg b]; rfl
theorem WOK.li (h : WOK W n) (hk : 0 ≤ p ∧ p ≤ k ∧ k < n) : WOK (liV W k p) n := fun i a b => by
  unfold liV
  by_cases e : i = p
  · rw [if_pos e]; exact h k (by omega) hk.2.2
  · rw [if_neg e]
    by_cases z : p < i ∧ i ≤ k
    · rw [if_pos z]; exact h (i - 1) (by omega) (by omega)
    · rw [if_neg z]; exact h i a b
theorem MVT.s {V V1 V2 : Int → It} {q p0 : Int} {t : Nat} (h : MVT H n q t V p0 V1 p) (g : mv1 H n V1 p q k) (e : V2 = liV V1 k p) : MVT H n q (t + 1) V p0 V2 (p + 1) := ⟨V1, p, k, h, g, e, rfl⟩
theorem LJ.of (h : LJQ W n p v) (hp : 0 ≤ p ∧ p < n) : LJ (vW W) n p (if v = -1 then p else v) := by
  unfold LJ
  simp only [vW_0, vW_1]
  rcases h with ⟨a, b⟩ | ⟨a, b, c⟩
  · rw [if_pos a]
    exact ⟨Int.le_refl _, hp.2, fun z => by omega, b⟩
  · have e : v ≠ -1 := by omega
    rw [if_neg e]
    exact ⟨by omega, a.2, fun _ => b, c⟩
theorem MVO.of (hl : W p 0 = 13) (hp : 0 ≤ p ∧ p < n) (h : LJQ W n p v) {V2 : Int → It} {t : Nat} {p2 d : Int} (m : MVT H n v t (vW W) p V2 p2) (e : FMQ H n V2 p2 v (-1)) (hd : d = t) (h0 : v = -1 → t = 0) : MVO H n (vW W) p V2 d := by
  refine Or.inr ⟨by rw [vW_0]; exact hl, _, LJ.of h hp, ?_⟩
  by_cases z : v = -1
  · rw [if_pos z]
    have t0 := h0 z
    subst t0
    exact Or.inl ⟨rfl, m.1, by rw [hd]; rfl⟩
  · rw [if_neg z]
    refine Or.inr ⟨?_, t, p2, m, ?_, hd⟩
    · rcases h with ⟨a, b⟩ | ⟨a, b, c⟩
      · exact absurd a z
      · exact a.1
    · rcases e with e | e
      · exact e.2
      · exact absurd e.1 (by decide)
end MVS
theorem cW_lift {σ : MS} {x l : Nat} {n f t : Int} (hx : x ≠ l) (h : 0 ≤ t ∧ t ≤ f ∧ f < n) {s1 d2 s2 m2 d3 : Int} (e1 : s1 = 13 * f) (e2 : s2 = 13 * t) (e3 : d2 = 13 * (t + 1)) (e4 : m2 = 13 * (f - t)) (e5 : d3 = 13 * t) {σ1 σ2 : MS} (q1 : σ1 = rowS (1000 + l) (cpZ (σ.2.1 (1000 + x)) (σ.2.1 (1000 + l)) s1 0 13) σ) (q2 : σ2 = rowS (1000 + x) (cpZ (σ1.2.1 (1000 + x)) (σ1.2.1 (1000 + x)) s2 d2 m2) σ1) : cW (rowS (1000 + x) (cpZ (σ2.2.1 (1000 + l)) (σ2.2.1 (1000 + x)) 0 d3 13) σ2) x n = liV (cW σ x n) f t := by
  have a1 : σ1.2.1 (1000 + x) = σ.2.1 (1000 + x) := by rw [q1, rowS_ne (by omega)]
  have a2 : σ2.2.1 (1000 + l) = cpZ (σ.2.1 (1000 + x)) (σ.2.1 (1000 + l)) s1 0 13 := by rw [q2, rowS_ne (by omega), q1, rowS_eq]
  have a3 : σ2.2.1 (1000 + x) = cpZ (σ.2.1 (1000 + x)) (σ.2.1 (1000 + x)) s2 d2 m2 := by rw [q2, rowS_eq, a1]
  funext i c
  unfold liV
  show (if (0 ≤ i ∧ i < n) ∧ 0 ≤ c ∧ c ≤ 12 then (rowS (1000 + x) (cpZ (σ2.2.1 (1000 + l)) (σ2.2.1 (1000 + x)) 0 d3 13) σ2).2.1 (1000 + x) (13 * i + c) else 0) = _
  rw [rowS_eq, a2, a3]
  unfold cpZ
  by_cases e : (0 ≤ i ∧ i < n) ∧ 0 ≤ c ∧ c ≤ 12
  · rw [if_pos e]
    by_cases z : i = t
    · rw [if_pos z]
      show _ = if (0 ≤ f ∧ f < n) ∧ 0 ≤ c ∧ c ≤ 12 then _ else _
      rw [if_pos (by omega), if_pos (by omega), if_pos (by omega), show s1 + (0 + (13 * i + c - d3) - 0) = 13 * f + c by omega]
    · rw [if_neg z, if_neg (by omega)]
      by_cases y : t < i ∧ i ≤ f
      · rw [if_pos y]
        show _ = if (0 ≤ i - 1 ∧ i - 1 < n) ∧ 0 ≤ c ∧ c ≤ 12 then _ else _
        rw [if_pos (by omega), if_pos (by omega), show s2 + (13 * i + c - d2) = 13 * (i - 1) + c by omega]
      · rw [if_neg y]
        show _ = if (0 ≤ i ∧ i < n) ∧ 0 ≤ c ∧ c ≤ 12 then _ else _
        rw [if_neg (by omega), if_pos (by omega)]
  · rw [if_neg e]
    by_cases z : i = t
    · rw [if_pos z]
      show _ = if (0 ≤ f ∧ f < n) ∧ 0 ≤ c ∧ c ≤ 12 then _ else _
      rw [if_neg (by omega)]
    · rw [if_neg z]
      by_cases y : t < i ∧ i ≤ f
      · rw [if_pos y]
        show _ = if (0 ≤ i - 1 ∧ i - 1 < n) ∧ 0 ≤ c ∧ c ≤ 12 then _ else _
        rw [if_neg (by omega)]
      · rw [if_neg y]
        show _ = if (0 ≤ i ∧ i < n) ∧ 0 ≤ c ∧ c ≤ 12 then _ else _
        rw [if_neg (by omega)]
end
section
set_option maxHeartbeats 1000000 in
set_option maxRecDepth 20000 in
theorem l_X1_isHome_x_12 (d : Nat) {T : CT} {σ : MS} {a : Nat} {c1 : Int} {c2 : Int} {Fq : Int} {xn : Nat} {Rn : Int → Int} {xh : Nat} {Rh : Int → Int} {post : Option Value → CT → MS → Prop} (h_a : OB T a 1) (r_c1 : -2147483648 ≤ c1 ∧ c1 ≤ 2147483647) (r_c2 : 0 ≤ c2 ∧ c2 ≤ 11) (hw : WT T σ) (h2c : (0 ≤ c2 ∧ c2 < Fq) ∧ Fq ≤ 12) (hFq : σ.2.1 10 a = Fq) (hxn : σ.2.1 14 a = (xn : Int)) (hRn : σ.2.1 (1000 + xn) = Rn) (hxh : σ.2.1 15 a = (xh : Int)) (hRh : σ.2.1 (1000 + xh) = Rh) (hx_34 : ∀ (i3 : Int) , (0 ≤ i3 ∧ i3 ≤ 12) → (True) → (i3 ≤ 12) → (hmC Fq Rn Rh c1) → Tn (d + 3) m_X1_isHome 34 T σ [(0, .ref a), (1, .int (iI c1)), (2, .int (iI c2)), (3, .int (iI i3))] [] post) (hx_42 : ∀ (i3 : Int) , (0 ≤ i3 ∧ i3 ≤ 12) → (True) → (i3 ≤ 12) → (NHM Rn Rh c1 (c2 + 1) 0) → Tn (d + 3) m_X1_isHome 42 T σ [(0, .ref a), (1, .int (iI c1)), (2, .int (iI c2)), (3, .int (iI i3))] [] post) : ∀ (nq9 : Nat) (i3 : Int) , (0 ≤ i3 ∧ i3 ≤ 12) → (NHM Rn Rh c1 c2 i3) → (i3 ≤ 12) → (2147483700 - i3).toNat = nq9 → Tn (d + 3) m_X1_isHome 12 T σ [(0, .ref a), (1, .int (iI c1)), (2, .int (iI c2)), (3, .int (iI i3))] [] post := by
  intro nq9
  induction nq9 using Nat.strongRecOn with
  | _ nq9 ih =>
    intro i3 r_i3 hI h3 hm
    refine tn_iload_n dX1_isHome_12 rfl 3 rfl ?_
    refine tn_aload_n dX1_isHome_13 rfl 0 rfl ?_
    obtain ⟨hk3, hl4⟩ : AR T xn 11 12 12 := ar_of (wf_14 hw h_a) hxn
    have hk3i : IA T xn := by unfold IA; omega
    refine tn_getR (ci := 1) (i := 9) (n := 14) (x := xn) dX1_isHome_14 rfl lay_1 (by decide) fl1_24 h_a rfl rfl (hxn) ?_
    refine tn_iload_n dX1_isHome_17 rfl 2 rfl ?_
    refine tn_callSN (M := m_X1_isHome) (pc := 18) (ix := 53) (M' := m_X11_at) (As := [.ref xn, .int (iI c2)]) (rest := [.int (iI i3)]) dX1_isHome_18 ok_X11_at stt_X11_at nl1_53 np_X11_at rfl (Nat.le_of_ble_eq_true rfl) (Nat.le_of_ble_eq_true rfl) rfl (k_X11_at_x (d + 1) (T := T) (σ := σ) (x := xn) (i := c2) (R := Rn) hk3i (by omega) (by omega) hw hRn) (fun r5 T7 σ6 gt8 hp => ?_)
    obtain ⟨v12, rfl, rfl, rfl, f9, f10, f11⟩ := hp
    clear gt8
    have f10n := f10.2.1 hk3
    clear f10
    have f11u := f11
    unfold ATQ at f11u
    show Tn _ _ 21 T σ [(0, .ref a), (1, .int (iI c1)), (2, .int (iI c2)), (3, .int (iI i3))] [.int (iI v12), .int (iI i3)] _
    refine tn_icmp_ge (tgt := 42) dX1_isHome_21 (by decide) ⟨by omega, by omega⟩ ⟨by omega, by omega⟩ (fun h13 => ?_) (fun h13 => ?_)
    · exact tn_sub [0, 1, 2, 3] rfl (hx_42 (i3) (by omega) True.intro (by omega) (hI.next (by have z := f11; unfold ATQ at z; omega)))
    · refine tn_aload_n dX1_isHome_24 rfl 0 rfl ?_
      refine tn_iload_n dX1_isHome_25 rfl 2 rfl ?_
      refine tn_iload_n dX1_isHome_26 rfl 3 rfl ?_
      obtain ⟨hk16, hl17⟩ : AR T xh 1 144 144 := ar_of (wf_15 hw h_a) hxh
      have hk16i : IA T xh := by unfold IA; omega
      refine tn_callV (M := m_X1_isHome) (pc := 27) (ix := 110) (ci := 1) (M' := m_X1_homeOf) (As := [.int (iI c2), .int (iI i3)]) (rest := []) dX1_isHome_27 ok_X1_homeOf im_X1_homeOf se_X1_homeOf ml1_110 np_X1_homeOf rfl rfl h_a rfl (Nat.le_of_ble_eq_true rfl) (Nat.le_of_ble_eq_true rfl) rfl (k_X1_homeOf_x (d) (T := T) (σ := σ) (a := a) (f := c2) (m := i3) (xh := xh) (Rh := Rh) h_a (by omega) (by omega) hw (hxh) hRh (by omega)) (fun r18 T20 σ19 gt21 hp => ?_)
      obtain ⟨v24, rfl, rfl, rfl, f22, f23⟩ := hp
      clear gt21
      show Tn _ _ 30 T σ [(0, .ref a), (1, .int (iI c1)), (2, .int (iI c2)), (3, .int (iI i3))] [.int (iI v24)] _
      refine tn_iload_n dX1_isHome_30 rfl 1 rfl ?_
      refine tn_icmp_ne (tgt := 36) dX1_isHome_31 (by decide) ⟨by omega, by omega⟩ ⟨by omega, by omega⟩ (fun h25 => ?_) (fun h25 => ?_)
      · refine tn_iinc (q0 := 3) (L' := [(3, .int (iI (i3 + 1))), (0, .ref a), (1, .int (iI c1)), (2, .int (iI c2))]) dX1_isHome_36 rfl (by decide) rfl ?_
        refine tn_goto (tgt := 12) dX1_isHome_39 (by decide) ?_
        exact tn_sub [1, 2, 3, 0] rfl (ih _ (by omega) (i3 + 1) (by omega) (hI.more (fun q => by have z := f23; unfold ATQ at z; omega)) (by omega) rfl)
      · exact tn_sub [0, 1, 2, 3] rfl (hx_34 (i3) (by omega) True.intro (by omega) ⟨c2, h2c.1.1, h2c.1.2, i3, by omega, by have z := f11; unfold ATQ at z; omega, by have z := f23; unfold ATQ at z; omega⟩)
set_option maxHeartbeats 1000000 in
set_option maxRecDepth 20000 in
theorem l_X1_isHome_x_2 (d : Nat) {T : CT} {σ : MS} {a : Nat} {c1 : Int} {Fq : Int} {xn : Nat} {Rn : Int → Int} {xh : Nat} {Rh : Int → Int} {post : Option Value → CT → MS → Prop} (h_a : OB T a 1) (r_c1 : -2147483648 ≤ c1 ∧ c1 ≤ 2147483647) (hw : WT T σ) (hFq : σ.2.1 10 a = Fq) (hxn : σ.2.1 14 a = (xn : Int)) (hRn : σ.2.1 (1000 + xn) = Rn) (hxh : σ.2.1 15 a = (xh : Int)) (hRh : σ.2.1 (1000 + xh) = Rh) (hx_34 : ∀ (i2 : Int) , (0 ≤ i2 ∧ i2 ≤ 12) → (True) → (i2 ≤ 12 ∧ 0 ≤ Fq ∧ Fq ≤ 12) → (hmC Fq Rn Rh c1) → Tn (d + 3) m_X1_isHome 34 T σ [(0, .ref a), (1, .int (iI c1)), (2, .int (iI i2))] [] post) (hx_48 : ∀ (i2 : Int) , (0 ≤ i2 ∧ i2 ≤ 12) → (True) → (i2 ≤ 12 ∧ 0 ≤ Fq ∧ Fq ≤ 12) → (¬ hmC Fq Rn Rh c1) → Tn (d + 3) m_X1_isHome 48 T σ [(0, .ref a), (1, .int (iI c1)), (2, .int (iI i2))] [] post) : ∀ (nq9 : Nat) (i2 : Int) , (0 ≤ i2 ∧ i2 ≤ 12) → (NHM Rn Rh c1 i2 0) → (i2 ≤ 12 ∧ 0 ≤ Fq ∧ Fq ≤ 12) → (2147483700 - i2).toNat = nq9 → Tn (d + 3) m_X1_isHome 2 T σ [(0, .ref a), (1, .int (iI c1)), (2, .int (iI i2))] [] post := by
  intro nq9
  induction nq9 using Nat.strongRecOn with
  | _ nq9 ih =>
    intro i2 r_i2 hM h2 hm
    refine tn_iload_n dX1_isHome_2 rfl 2 rfl ?_
    refine tn_aload_n dX1_isHome_3 rfl 0 rfl ?_
    refine tn_getI (ci := 1) (i := 5) (n := 10) (t := σ.2.1 10 a) dX1_isHome_4 rfl lay_1 (by decide) fl1_46 h_a rfl rfl (rfl) ?_
    have g1 : ((0 : Int) ≤ σ.2.1 10 a ∧ σ.2.1 10 a ≤ 12) := wf_10 hw h_a
    refine tn_icmp_ge (tgt := 48) dX1_isHome_7 (by decide) ⟨by omega, by omega⟩ ⟨by omega, by omega⟩ (fun h2 => ?_) (fun h2 => ?_)
    · exact tn_sub [0, 1, 2] rfl (hx_48 (i2) (by omega) True.intro (by omega) (hM.no (by omega)))
    · refine tn_iconst dX1_isHome_10 ?_
      refine tn_istore_n (L' := [(3, .int (iI 0)), (0, .ref a), (1, .int (iI c1)), (2, .int (iI i2))]) dX1_isHome_11 rfl (by decide) rfl ?_
      refine tn_sub [1, 2, 3, 0] rfl (l_X1_isHome_x_12 (d) (T := T) (σ := σ) (a := a) (c1 := c1) (c2 := i2) (Fq := Fq) (xn := xn) (Rn := (Rn)) (xh := xh) (Rh := (Rh)) h_a (by omega) (by omega) hw (by omega) (hFq) (hxn) hRn (hxh) hRh (fun i33 r9 f10 f11 f12 => ?_) (fun i313 r19 f20 f21 f22 => ?_) _ (0) (by omega) hM (by omega) rfl)
      · show Tn _ _ 34 T σ [(0, .ref a), (1, .int (iI c1)), (2, .int (iI i2)), (3, .int (iI i33))] [] _
        exact tn_sub [0, 1, 2] rfl (hx_34 (i2) (by omega) True.intro (by omega) f12)
      · show Tn _ _ 42 T σ [(0, .ref a), (1, .int (iI c1)), (2, .int (iI i2)), (3, .int (iI i313))] [] _
        refine tn_iinc (q0 := 2) (L' := [(2, .int (iI (i2 + 1))), (0, .ref a), (1, .int (iI c1)), (3, .int (iI i313))]) dX1_isHome_42 rfl (by decide) rfl ?_
        refine tn_goto (tgt := 2) dX1_isHome_45 (by decide) ?_
        exact tn_sub [1, 2, 0] rfl (ih _ (by omega) (i2 + 1) (by omega) f22 (by omega) rfl)
set_option maxHeartbeats 1000000 in
set_option maxRecDepth 20000 in
theorem k_X1_isHome_x (d : Nat) {T : CT} {σ : MS} {a : Nat} {r : Int} {Fq : Int} {xn : Nat} {Rn : Int → Int} {xh : Nat} {Rh : Int → Int} (ha : OB T a 1) (h_r : -2147483648 ≤ r ∧ r ≤ 2147483647) (hw : WT T σ) (hFq : σ.2.1 10 a = Fq) (hxn : σ.2.1 14 a = (xn : Int)) (hRn : σ.2.1 (1000 + xn) = Rn) (hxh : σ.2.1 15 a = (xh : Int)) (hRh : σ.2.1 (1000 + xh) = Rh) : Tn (d + 3) m_X1_isHome 0 T σ [(0, .ref a), (1, .int (iI r))] [] (fun ro T2 σ2 => ∃ v : Int, ro = some (.int (iI v)) ∧ T = T2 ∧ σ = σ2 ∧ (v = 0 ∨ v = 1) ∧ ((v = 1 ∧ hmC Fq Rn Rh r) ∨ (v = 0 ∧ ¬ hmC Fq Rn Rh r))) := by
  have h10 := wf_10 hw ha
  refine tn_iconst dX1_isHome_0 ?_
  refine tn_istore_n (L' := [(2, .int (iI 0)), (0, .ref a), (1, .int (iI r))]) dX1_isHome_1 rfl (by decide) rfl ?_
  refine tn_sub [1, 2, 0] rfl (l_X1_isHome_x_2 (d) (T := T) (σ := σ) (a := a) (c1 := r) (Fq := Fq) (xn := xn) (Rn := (Rn)) (xh := xh) (Rh := (Rh)) ha (by omega) hw (hFq) (hxn) hRn (hxh) hRh (fun i21 r7 f8 f9 f10 => ?_) (fun i211 r17 f18 f19 f20 => ?_) _ (0) (by omega) NHM.nil (by omega) rfl)
  · show Tn _ _ 34 T σ [(0, .ref a), (1, .int (iI r)), (2, .int (iI i21))] [] _
    refine tn_iconst dX1_isHome_34 ?_
    exact tn_zret (v := 1) rfl (by decide) dX1_isHome_35 ⟨_, rfl, rfl, rfl, by omega, Or.inl ⟨rfl, f10⟩⟩
  · show Tn _ _ 48 T σ [(0, .ref a), (1, .int (iI r)), (2, .int (iI i211))] [] _
    refine tn_iconst dX1_isHome_48 ?_
    exact tn_zret (v := 0) rfl (by decide) dX1_isHome_49 ⟨_, rfl, rfl, rfl, by omega, Or.inr ⟨rfl, f20⟩⟩
end
section
set_option maxHeartbeats 1000000 in
set_option maxRecDepth 20000 in
theorem l_X6_lastJumpTo_x_7 (d : Nat) {T : CT} {σ : MS} {rx1 : Nat} {c2 : Int} {x : Nat} {n : Int} {W : Int → It} {post : Option Value → CT → MS → Prop} (h_rx1 : OB T rx1 1) (t_rx1 : (T rx1).1 = 50) (r_c2 : 0 ≤ c2 ∧ c2 ≤ 200) (hw : WT T σ) (hl : 0 ≤ c2) (hx : σ.2.1 5 rx1 = (x : Int)) (hn : σ.2.1 6 rx1 = n) (hW : cW σ x n = W) (hN : n ≤ 200) (hx_38 : ∀ (i3 : Int) , (-1 ≤ i3 ∧ i3 ≤ 200) → (True) → (True) → (LJQ W n c2 i3) → (i3 < 200 ∧ 0 ≤ i3) → Tn (d + 2) m_X6_lastJumpTo 38 T σ [(1, .ref rx1), (2, .int (iI c2)), (3, .int (iI i3))] [] post) (hx_46 : ∀ (i3 : Int) , (-1 ≤ i3 ∧ i3 ≤ 200) → (True) → (True) → (LJQ W n c2 (-1)) → Tn (d + 2) m_X6_lastJumpTo 46 T σ [(1, .ref rx1), (2, .int (iI c2)), (3, .int (iI i3))] [] post) : ∀ (nq9 : Nat) (i3 : Int) , (-1 ≤ i3 ∧ i3 ≤ 200) → (NJB W n c2 i3) → (i3 < n) → (i3 + 20).toNat = nq9 → Tn (d + 2) m_X6_lastJumpTo 7 T σ [(1, .ref rx1), (2, .int (iI c2)), (3, .int (iI i3))] [] post := by
  intro nq9
  induction nq9 using Nat.strongRecOn with
  | _ nq9 ih =>
    intro i3 r_i3 hJ h3 hm
    refine tn_iload_n dX6_lastJumpTo_7 rfl 2 rfl ?_
    refine tn_iload_n dX6_lastJumpTo_8 rfl 1 rfl ?_
    refine tn_icmp_le (tgt := 46) dX6_lastJumpTo_9 (by decide) ⟨by omega, by omega⟩ ⟨by omega, by omega⟩ (fun h1 => ?_) (fun h1 => ?_)
    · exact tn_sub [0, 1, 2] rfl (hx_46 (i3) (by omega) True.intro True.intro (Or.inl ⟨rfl, fun i a b => hJ i (by omega) b⟩))
    · refine tn_aload_n dX6_lastJumpTo_12 rfl 0 rfl ?_
      refine tn_iload_n dX6_lastJumpTo_13 rfl 2 rfl ?_
      refine tn_iconst dX6_lastJumpTo_14 ?_
      obtain ⟨hl5, hk4a, hk4b⟩ := cel_of (wf_5 hw h_rx1) hx
      have hk4 : (T x).1 = 1 := hk4a (by omega)
      clear hk4a hk4b
      have hk4i : IA T x := by unfold IA; omega
      refine tn_callV (M := m_X6_lastJumpTo) (pc := 15) (ix := 34) (ci := 1) (M' := m_X1_get) (As := [.int (iI i3), .int (iI 0)]) (rest := []) dX6_lastJumpTo_15 ok_X1_get im_X1_get se_X1_get ml6_34 np_X1_get rfl rfl h_rx1 rfl (Nat.le_of_ble_eq_true rfl) (Nat.le_of_ble_eq_true rfl) rfl (k_X1_get_x (d) (T := T) (σ := σ) (a := rx1) (k := i3) (c := 0) (x := x) (n := n) (W := W) h_rx1 (by omega) (by decide) hw (hx) (hn) hW (by omega) (by omega)) (fun r6 T8 σ7 gt9 hp => ?_)
      obtain ⟨v12, rfl, rfl, rfl, f10, f11⟩ := hp
      clear gt9
      show Tn _ _ 18 T σ [(1, .ref rx1), (2, .int (iI c2)), (3, .int (iI i3))] [.int (iI v12)] _
      refine tn_bipush dX6_lastJumpTo_18 (by decide) ?_
      refine tn_icmp_ne (tgt := 40) dX6_lastJumpTo_20 (by decide) ⟨by omega, by omega⟩ ⟨by decide, by decide⟩ (fun h13 => ?_) (fun h13 => ?_)
      · refine tn_iinc (q0 := 2) (L' := [(3, .int (iI (i3 + (-1)))), (1, .ref rx1), (2, .int (iI c2))]) dX6_lastJumpTo_40 rfl (by decide) rfl ?_
        refine tn_goto (tgt := 7) dX6_lastJumpTo_43 (by decide) ?_
        exact tn_sub [1, 2, 0] rfl (ih _ (by omega) (i3 + (-1)) (by omega) (hJ.step (fun q => by omega)) (by omega) rfl)
      · refine tn_aload_n dX6_lastJumpTo_23 rfl 0 rfl ?_
        refine tn_iload_n dX6_lastJumpTo_24 rfl 2 rfl ?_
        refine tn_iconst dX6_lastJumpTo_25 ?_
        refine tn_callV (M := m_X6_lastJumpTo) (pc := 26) (ix := 34) (ci := 1) (M' := m_X1_get) (As := [.int (iI i3), .int (iI 1)]) (rest := []) dX6_lastJumpTo_26 ok_X1_get im_X1_get se_X1_get ml6_34 np_X1_get rfl rfl h_rx1 rfl (Nat.le_of_ble_eq_true rfl) (Nat.le_of_ble_eq_true rfl) rfl (k_X1_get_x (d) (T := T) (σ := σ) (a := rx1) (k := i3) (c := 1) (x := x) (n := n) (W := W) h_rx1 (by omega) (by decide) hw (hx) (hn) hW (by omega) (by omega)) (fun r14 T16 σ15 gt17 hp => ?_)
        obtain ⟨v20, rfl, rfl, rfl, f18, f19⟩ := hp
        clear gt17
        show Tn _ _ 29 T σ [(1, .ref rx1), (2, .int (iI c2)), (3, .int (iI i3))] [.int (iI v20)] _
        refine tn_aload_n dX6_lastJumpTo_29 rfl 0 rfl ?_
        refine tn_iload_n dX6_lastJumpTo_30 rfl 1 rfl ?_
        refine tn_iconst dX6_lastJumpTo_31 ?_
        refine tn_callV (M := m_X6_lastJumpTo) (pc := 32) (ix := 34) (ci := 1) (M' := m_X1_get) (As := [.int (iI c2), .int (iI 1)]) (rest := [.int (iI v20)]) dX6_lastJumpTo_32 ok_X1_get im_X1_get se_X1_get ml6_34 np_X1_get rfl rfl h_rx1 rfl (Nat.le_of_ble_eq_true rfl) (Nat.le_of_ble_eq_true rfl) rfl (k_X1_get_x (d) (T := T) (σ := σ) (a := rx1) (k := c2) (c := 1) (x := x) (n := n) (W := W) h_rx1 (by omega) (by decide) hw (hx) (hn) hW (by omega) (by omega)) (fun r21 T23 σ22 gt24 hp => ?_)
        obtain ⟨v27, rfl, rfl, rfl, f25, f26⟩ := hp
        clear gt24
        show Tn _ _ 35 T σ [(1, .ref rx1), (2, .int (iI c2)), (3, .int (iI i3))] [.int (iI v27), .int (iI v20)] _
        refine tn_icmp_ne (tgt := 40) dX6_lastJumpTo_35 (by decide) ⟨by omega, by omega⟩ ⟨by omega, by omega⟩ (fun h28 => ?_) (fun h28 => ?_)
        · refine tn_iinc (q0 := 2) (L' := [(3, .int (iI (i3 + (-1)))), (1, .ref rx1), (2, .int (iI c2))]) dX6_lastJumpTo_40 rfl (by decide) rfl ?_
          refine tn_goto (tgt := 7) dX6_lastJumpTo_43 (by decide) ?_
          exact tn_sub [1, 2, 0] rfl (ih _ (by omega) (i3 + (-1)) (by omega) (hJ.step (fun q => by omega)) (by omega) rfl)
        · exact tn_sub [0, 1, 2] rfl (hx_38 (i3) (by omega) True.intro True.intro (Or.inr ⟨⟨by omega, by omega⟩, ⟨by omega, by omega⟩, hJ⟩) (by omega))
set_option maxHeartbeats 1000000 in
set_option maxRecDepth 20000 in
theorem k_X6_lastJumpTo_x (d : Nat) {T : CT} {σ : MS} {a : Nat} {p1 : Nat} {p2 : Int} {x : Nat} {n : Int} {W : Int → It} (ha : OB T a 6) (h_p1 : OB T p1 1) (t_p1 : (T p1).1 = 50) (h_p2 : -2147483648 ≤ p2 ∧ p2 ≤ 2147483647) (hw : WT T σ) (hx : σ.2.1 5 p1 = (x : Int)) (hn : σ.2.1 6 p1 = n) (hW : cW σ x n = W) (hN : n ≤ 200) (hl : 0 ≤ p2) (hl2 : p2 ≤ 200) : Tn (d + 2) m_X6_lastJumpTo 0 T σ [(0, .ref a), (1, .ref p1), (2, .int (iI p2))] [] (fun ro T2 σ2 => ∃ v : Int, ro = some (.int (iI v)) ∧ T = T2 ∧ σ = σ2 ∧ (-1 ≤ v ∧ v ≤ 200) ∧ (LJQ W n p2 v) ∧ (-1 ≤ v ∧ v < 200)) := by
  refine tn_aload_n dX6_lastJumpTo_0 rfl 1 rfl ?_
  refine tn_getI (ci := 1) (i := 1) (n := 6) (t := σ.2.1 6 p1) dX6_lastJumpTo_1 rfl lay_1 (by decide) fl6_22 h_p1 rfl rfl (rfl) ?_
  have g1 : ((0 : Int) ≤ σ.2.1 6 p1 ∧ σ.2.1 6 p1 ≤ 5000) ∧ ((T p1).1 = 50 → σ.2.1 6 p1 ≤ 200) := wf_6 hw h_p1
  have g1x := g1.2
  replace g1 := g1.1
  have g1x := g1x t_p1
  refine tn_iconst dX6_lastJumpTo_4 ?_
  refine tn_isub dX6_lastJumpTo_5 ?_
  refine tn_istore_n (L' := [(3, .int (iI ((σ.2.1 6 p1) - 1))), (0, .ref a), (1, .ref p1), (2, .int (iI p2))]) dX6_lastJumpTo_6 rfl (by decide) rfl ?_
  refine tn_sub [2, 3, 0] rfl (l_X6_lastJumpTo_x_7 (d) (T := T) (σ := σ) (rx1 := p1) (c2 := p2) (x := x) (n := n) (W := (W)) h_p1 t_p1 (by omega) hw (by omega) (hx) (hn) hW hN (fun i32 r8 f9 f10 f11 f12 => ?_) (fun i313 r19 f20 f21 f22 => ?_) _ ((σ.2.1 6 p1) - 1) (by omega) (fun i a b => by omega) (by omega) rfl)
  · show Tn _ _ 38 T σ [(1, .ref p1), (2, .int (iI p2)), (3, .int (iI i32))] [] _
    refine tn_iload_n dX6_lastJumpTo_38 rfl 2 rfl ?_
    exact tn_iret rfl dX6_lastJumpTo_39 ⟨_, rfl, rfl, rfl, by omega, f11, by omega⟩
  · show Tn _ _ 46 T σ [(1, .ref p1), (2, .int (iI p2)), (3, .int (iI i313))] [] _
    refine tn_iconst dX6_lastJumpTo_46 ?_
    exact tn_iret rfl dX6_lastJumpTo_47 ⟨_, rfl, rfl, rfl, by omega, f22, by decide⟩
end
section
theorem wcs_end {W : Int → It} {f k t : Int} {L : Int → Int64} (h : WCS W f (k - 1) L) (a : t < k) (b : f ≤ k) (c : k - 1 = t ∨ k = f := by omega) : WCS W f t L := by
  rcases c with c | c
  · exact h.to c
  · intro g
    rw [h g]
    exact ⟨fun ⟨u, x, y, _⟩ => by omega, fun ⟨u, x, y, _⟩ => by omega⟩
set_option maxHeartbeats 1000000 in
set_option maxRecDepth 20000 in
theorem l_X6_collectWritten_x_11 (d : Nat) {T : CT} {σ0 : MS} {a : Nat} {rx1 : Nat} {c3 : Int} {f0 : Int} {x : Nat} {n : Int} {W : Int → It} {xw : Nat} {post : Option Value → CT → MS → Prop} (h_a : OB T a 6) (h_rx1 : OB T rx1 1) (t_rx1 : (T rx1).1 = 50) (r_c3 : -2147483648 ≤ c3 ∧ c3 ≤ 200) (hw0 : WT T σ0) (hft : 0 ≤ f0 ∧ c3 < n) (hx : σ0.2.1 5 rx1 = (x : Int)) (hn : σ0.2.1 6 rx1 = n) (hW : cW σ0 x n = W) (hxw : σ0.2.1 54 a = (xw : Int)) (hN : n ≤ 200) (hwok : WOK W n) (hx_37 : ∀ (i4 : Int) (σ : MS) , (WT T σ) → (FrC T [] σ0 σ) → (0 ≤ i4 ∧ i4 ≤ 2147483647) → (CHX [] [] [xw] σ0 σ) → (WCS W f0 (i4 - 1) (σ.2.2 xw)) → (f0 ≤ i4 ∧ (i4 ≤ c3 + 1 ∨ i4 = f0)) → (c3 < i4) → Tn (d + 4) m_X6_collectWritten 37 T σ [(0, .ref a), (1, .ref rx1), (3, .int (iI c3)), (4, .int (iI i4))] [] post) : ∀ (nq9 : Nat) (i4 : Int) (σ : MS) , (WT T σ) → (FrC T [] σ0 σ) → (0 ≤ i4 ∧ i4 ≤ 2147483647) → (CHX [] [] [xw] σ0 σ) → (WCS W f0 (i4 - 1) (σ.2.2 xw)) → (f0 ≤ i4 ∧ (i4 ≤ c3 + 1 ∨ i4 = f0)) → (2147483700 - i4).toNat = nq9 → Tn (d + 4) m_X6_collectWritten 11 T σ [(0, .ref a), (1, .ref rx1), (3, .int (iI c3)), (4, .int (iI i4))] [] post := by
  intro nq9
  induction nq9 using Nat.strongRecOn with
  | _ nq9 ih =>
    intro i4 σ hw hF r_i4 hC hB h4 hm
    refine tn_iload dX6_collectWritten_11 3 rfl ?_
    refine tn_iload_n dX6_collectWritten_13 rfl 2 rfl ?_
    refine tn_icmp_gt (tgt := 37) dX6_collectWritten_14 (by decide) ⟨by omega, by omega⟩ ⟨by omega, by omega⟩ (fun h1 => ?_) (fun h1 => ?_)
    · exact tn_sub [0, 1, 2, 3] rfl (hx_37 (i4) σ hw (FrC.rfl.trans (FrC.sub hF (by decide))) (by omega) hC hB (by omega) (by omega))
    · refine tn_aload_n dX6_collectWritten_17 rfl 0 rfl ?_
      obtain ⟨hk4, hl5⟩ : AR T xw 3 3 3 := ar_of (wf_54 hw0 h_a) hxw
      refine tn_getR (ci := 6) (i := 2) (n := 54) (x := xw) dX6_collectWritten_18 rfl lay_6 (by decide) fl6_18 h_a rfl rfl (rc_F hF (Or.inl (by decide)) (by decide) (hxw)) ?_
      refine tn_iconst dX6_collectWritten_21 ?_
      refine tn_aload_n dX6_collectWritten_22 rfl 1 rfl ?_
      refine tn_iload dX6_collectWritten_23 3 rfl ?_
      obtain ⟨hl9, hk8a, hk8b⟩ := cel_of (wf_5 hw0 h_rx1) hx
      have hk8 : (T x).1 = 1 := hk8a (by omega)
      clear hk8a hk8b
      have hk8i : IA T x := by unfold IA; omega
      have cv10 : cW σ x n = W := (cW_row (CHX.r hC (by first | (simp; done) | (simp only [List.mem_cons, List.not_mem_nil, or_false, not_or]; omega)))).trans (hW)
      refine tn_callV (M := m_X6_collectWritten) (pc := 25) (ix := 84) (ci := 1) (M' := m_X1_writtenBy) (As := [.int (iI i4)]) (rest := [.int (iI 0), .ref xw]) dX6_collectWritten_25 ok_X1_writtenBy im_X1_writtenBy se_X1_writtenBy ml6_84 np_X1_writtenBy rfl rfl h_rx1 rfl (Nat.le_of_ble_eq_true rfl) (Nat.le_of_ble_eq_true rfl) rfl (k_X1_writtenBy_x (d + 1) (T := T) (σ := σ) (a := rx1) (k := i4) (x := x) (n := n) (W := W) h_rx1 (by omega) hw (rc_F hF (Or.inl (by decide)) (by decide) (hx)) (rc_F hF (Or.inl (by decide)) (by decide) (hn)) cv10 (by omega)) (fun r11 T13 σ12 gt14 hp => ?_)
      obtain ⟨v17, rfl, rfl, rfl, f15, f16⟩ := hp
      clear gt14
      show Tn _ _ 28 T σ [(0, .ref a), (1, .ref rx1), (3, .int (iI c3)), (4, .int (iI i4))] [.int (iI v17), .int (iI 0), .ref xw] _
      refine tn_callSN (M := m_X6_collectWritten) (pc := 28) (ix := 127) (M' := m_X11_include) (As := [.ref xw, .int (iI 0), .int (iI v17)]) (rest := []) dX6_collectWritten_28 ok_X11_include stt_X11_include nl6_127 np_X11_include rfl (Nat.le_of_ble_eq_true rfl) (Nat.le_of_ble_eq_true rfl) rfl (k_X11_include_x (d + 1) (T := T) (σ := σ) (x := xw) (k := 0) (r := v17) (L := σ.2.2 xw) hk4 (by omega) (by decide) (by omega) hw rfl (by omega)) (fun r18 T20 σ19 gt21 hp => ?_)
      obtain ⟨rfl, rfl, w25, F26, f22, f23⟩ := hp
      clear gt21
      show Tn _ _ 31 T σ19 [(0, .ref a), (1, .ref rx1), (3, .int (iI c3)), (4, .int (iI i4))] [] _
      refine tn_iinc (q0 := 3) (L' := [(4, .int (iI (i4 + 1))), (0, .ref a), (1, .ref rx1), (3, .int (iI c3))]) dX6_collectWritten_31 rfl (by decide) rfl ?_
      refine tn_goto (tgt := 11) dX6_collectWritten_34 (by decide) ?_
      exact tn_sub [1, 2, 3, 0] rfl (ih _ (by omega) (i4 + 1) σ19 w25 ((FrC.rfl.trans (FrC.sub hF (by decide))).trans (FrC.sub F26 (by decide))) (by omega) (hC.trans (CHX.sub f22 (by simp) (by simp) (by simp))) ((hB.step hwok (by omega) ⟨by omega, by omega⟩ f16 f23).to (by omega)) (by omega) rfl)
set_option maxHeartbeats 1000000 in
set_option maxRecDepth 20000 in
theorem k_X6_collectWritten_x (d : Nat) {T : CT} {σ : MS} {a : Nat} {p1 : Nat} {p2 : Int} {p3 : Int} {x : Nat} {n : Int} {W : Int → It} {xw : Nat} (ha : OB T a 6) (h_p1 : OB T p1 1) (t_p1 : (T p1).1 = 50) (h_p2 : -2147483648 ≤ p2 ∧ p2 ≤ 2147483647) (h_p3 : -2147483648 ≤ p3 ∧ p3 ≤ 2147483647) (hw : WT T σ) (hx : σ.2.1 5 p1 = (x : Int)) (hn : σ.2.1 6 p1 = n) (hW : cW σ x n = W) (hxw : σ.2.1 54 a = (xw : Int)) (hN : n ≤ 200) (hwok : WOK W n) (hft : (0 ≤ p2 ∧ p2 ≤ 400) ∧ -1 ≤ p3 ∧ p3 < n) : Tn (d + 4) m_X6_collectWritten 0 T σ [(0, .ref a), (1, .ref p1), (2, .int (iI p2)), (3, .int (iI p3))] [] (fun ro T2 σ2 => ro = none ∧ T = T2 ∧ WT T2 σ2 ∧ FrC T [] σ σ2 ∧ (CHX [] [] [xw] σ σ2) ∧ (WCS W p2 p3 (σ2.2.2 xw))) := by
  refine tn_aload_n dX6_collectWritten_0 rfl 0 rfl ?_
  obtain ⟨hk3, hl4⟩ : AR T xw 3 3 3 := ar_of (wf_54 hw ha) hxw
  refine tn_getR (ci := 6) (i := 2) (n := 54) (x := xw) dX6_collectWritten_1 rfl lay_6 (by decide) fl6_18 ha rfl rfl (hxw) ?_
  refine tn_iconst dX6_collectWritten_4 ?_
  refine tn_callSN (M := m_X6_collectWritten) (pc := 5) (ix := 123) (M' := m_X11_clear) (As := [.ref xw, .int (iI 3)]) (rest := []) dX6_collectWritten_5 ok_X11_clear stt_X11_clear nl6_123 np_X11_clear rfl (Nat.le_of_ble_eq_true rfl) (Nat.le_of_ble_eq_true rfl) rfl (k_X11_clear_x (d) (T := T) (σ := σ) (x := xw) (n := 3) hk3 (by omega) (by decide) hw (by omega)) (fun r5 T7 σ6 gt8 hp => ?_)
  obtain ⟨rfl, rfl, w12, F13, f9, f10⟩ := hp
  clear gt8
  show Tn _ _ 8 T σ6 [(0, .ref a), (1, .ref p1), (2, .int (iI p2)), (3, .int (iI p3))] [] _
  refine tn_iload_n dX6_collectWritten_8 rfl 2 rfl ?_
  refine tn_istore (L' := [(4, .int (iI p2)), (0, .ref a), (1, .ref p1), (2, .int (iI p2)), (3, .int (iI p3))]) dX6_collectWritten_9 (by decide) rfl ?_
  have cv14 : cW σ6 x n = W := (cW_row (CHX.r f9 (by first | (simp; done) | (simp only [List.mem_cons, List.not_mem_nil, or_false, not_or]; omega)))).trans (hW)
  refine tn_sub [1, 2, 4, 0] rfl (l_X6_collectWritten_x_11 (d) (T := T) (σ0 := σ6) (a := a) (rx1 := p1) (c3 := p3) (x := x) (n := n) (W := (W)) (xw := xw) (f0 := p2) ha h_p1 t_p1 (by omega) w12 (by omega) (rc_F F13 (Or.inl (by decide)) (by decide) (hx)) (rc_F F13 (Or.inl (by decide)) (by decide) (hn)) cv14 (rc_F F13 (Or.inl (by decide)) (by decide) (hxw)) hN hwok (fun i415 σ16 w19 F20 r21 f22 f23 f24 f25 => ?_) _ (p2) σ6 w12 FrC.rfl (by omega) CHX.rfl (WCS.nil (fun g => bT_z (fun i a b => f10.z (by omega) (by omega))) (by omega)) (by omega) rfl)
  show Tn _ _ 37 T σ16 [(0, .ref a), (1, .ref p1), (3, .int (iI p3)), (4, .int (iI i415))] [] _
  exact tn_vret rfl dX6_collectWritten_37 ⟨rfl, rfl, w19, ((FrC.rfl.trans (FrC.sub F13 (by decide))).trans (FrC.sub F20 (by decide))), ((CHX.rfl.trans (CHX.sub f9 (by simp) (by simp) (by simp))).trans (CHX.sub f22 (by simp) (by simp) (by simp))), (wcs_end f23 (by omega) (by omega))⟩
end
section
set_option maxHeartbeats 1000000 in
set_option maxRecDepth 20000 in
theorem l_X6_isOnlyWriter_x_9 (d : Nat) {T : CT} {σ : MS} {rx1 : Nat} {c2 : Int} {c3 : Int} {x : Nat} {n : Int} {W : Int → It} {post : Option Value → CT → MS → Prop} (h_rx1 : OB T rx1 1) (t_rx1 : (T rx1).1 = 50) (r_c2 : 0 ≤ c2 ∧ c2 ≤ 200) (r_c3 : -2147483648 ≤ c3 ∧ c3 ≤ 2147483647) (hw : WT T σ) (hk : 0 ≤ c2 ∧ c2 < n) (h3 : c3 = W c2 1 ∧ 0 ≤ c3 ∧ c3 < 192) (hx : σ.2.1 5 rx1 = (x : Int)) (hn : σ.2.1 6 rx1 = n) (hW : cW σ x n = W) (hN : n ≤ 200) (hwok : WOK W n) (hx_34 : ∀ (i4 : Int) , (0 ≤ i4 ∧ i4 ≤ 2147483647) → (True) → (¬ OWQ W n c2) → Tn (d + 3) m_X6_isOnlyWriter 34 T σ [(1, .ref rx1), (2, .int (iI c2)), (3, .int (iI c3)), (4, .int (iI i4))] [] post) (hx_42 : ∀ (i4 : Int) , (0 ≤ i4 ∧ i4 ≤ 2147483647) → (True) → (OWQ W n c2) → Tn (d + 3) m_X6_isOnlyWriter 42 T σ [(1, .ref rx1), (2, .int (iI c2)), (3, .int (iI c3)), (4, .int (iI i4))] [] post) : ∀ (nq9 : Nat) (i4 : Int) , (0 ≤ i4 ∧ i4 ≤ 2147483647) → (∀ i, 0 ≤ i → i < i4 → i ≠ c2 → ¬ wrT (W i) (W c2 1)) → (2147483700 - i4).toNat = nq9 → Tn (d + 3) m_X6_isOnlyWriter 9 T σ [(1, .ref rx1), (2, .int (iI c2)), (3, .int (iI c3)), (4, .int (iI i4))] [] post := by
  intro nq9
  induction nq9 using Nat.strongRecOn with
  | _ nq9 ih =>
    intro i4 r_i4 hO hm
    refine tn_iload dX6_isOnlyWriter_9 3 rfl ?_
    refine tn_aload_n dX6_isOnlyWriter_11 rfl 0 rfl ?_
    refine tn_getI (ci := 1) (i := 1) (n := 6) (t := σ.2.1 6 rx1) dX6_isOnlyWriter_12 rfl lay_1 (by decide) fl6_22 h_rx1 rfl rfl (rfl) ?_
    have g1 : ((0 : Int) ≤ σ.2.1 6 rx1 ∧ σ.2.1 6 rx1 ≤ 5000) ∧ ((T rx1).1 = 50 → σ.2.1 6 rx1 ≤ 200) := wf_6 hw h_rx1
    have g1x := g1.2
    replace g1 := g1.1
    have g1x := g1x t_rx1
    refine tn_icmp_ge (tgt := 42) dX6_isOnlyWriter_15 (by decide) ⟨by omega, by omega⟩ ⟨by omega, by omega⟩ (fun h2 => ?_) (fun h2 => ?_)
    · exact tn_sub [0, 1, 2, 3] rfl (hx_42 (i4) (by omega) True.intro (fun i a b c => hO i a (by omega) c))
    · refine tn_iload dX6_isOnlyWriter_18 3 rfl ?_
      refine tn_iload_n dX6_isOnlyWriter_20 rfl 1 rfl ?_
      refine tn_icmp_eq (tgt := 36) dX6_isOnlyWriter_21 (by decide) ⟨by omega, by omega⟩ ⟨by omega, by omega⟩ (fun h3 => ?_) (fun h3 => ?_)
      · refine tn_iinc (q0 := 3) (L' := [(4, .int (iI (i4 + 1))), (1, .ref rx1), (2, .int (iI c2)), (3, .int (iI c3))]) dX6_isOnlyWriter_36 rfl (by decide) rfl ?_
        refine tn_goto (tgt := 9) dX6_isOnlyWriter_39 (by decide) ?_
        exact tn_sub [1, 2, 3, 0] rfl (ih _ (by omega) (i4 + 1) (by omega) (fun i a b c => (Classical.em (i = i4)).elim (fun e => absurd e (by omega)) (fun e => hO i a (by omega) c)) rfl)
      · refine tn_aload_n dX6_isOnlyWriter_24 rfl 0 rfl ?_
        refine tn_iload dX6_isOnlyWriter_25 3 rfl ?_
        obtain ⟨hl7, hk6a, hk6b⟩ := cel_of (wf_5 hw h_rx1) hx
        have hk6 : (T x).1 = 1 := hk6a (by omega)
        clear hk6a hk6b
        have hk6i : IA T x := by unfold IA; omega
        refine tn_callV (M := m_X6_isOnlyWriter) (pc := 27) (ix := 84) (ci := 1) (M' := m_X1_writtenBy) (As := [.int (iI i4)]) (rest := []) dX6_isOnlyWriter_27 ok_X1_writtenBy im_X1_writtenBy se_X1_writtenBy ml6_84 np_X1_writtenBy rfl rfl h_rx1 rfl (Nat.le_of_ble_eq_true rfl) (Nat.le_of_ble_eq_true rfl) rfl (k_X1_writtenBy_x (d) (T := T) (σ := σ) (a := rx1) (k := i4) (x := x) (n := n) (W := W) h_rx1 (by omega) hw (hx) (hn) hW (by omega)) (fun r8 T10 σ9 gt11 hp => ?_)
        obtain ⟨v14, rfl, rfl, rfl, f12, f13⟩ := hp
        clear gt11
        show Tn _ _ 30 T σ [(1, .ref rx1), (2, .int (iI c2)), (3, .int (iI c3)), (4, .int (iI i4))] [.int (iI v14)] _
        refine tn_iload_n dX6_isOnlyWriter_30 rfl 2 rfl ?_
        refine tn_icmp_ne (tgt := 36) dX6_isOnlyWriter_31 (by decide) ⟨by omega, by omega⟩ ⟨by omega, by omega⟩ (fun h15 => ?_) (fun h15 => ?_)
        · refine tn_iinc (q0 := 3) (L' := [(4, .int (iI (i4 + 1))), (1, .ref rx1), (2, .int (iI c2)), (3, .int (iI c3))]) dX6_isOnlyWriter_36 rfl (by decide) rfl ?_
          refine tn_goto (tgt := 9) dX6_isOnlyWriter_39 (by decide) ?_
          exact tn_sub [1, 2, 3, 0] rfl (ih _ (by omega) (i4 + 1) (by omega) (fun i a b c => (Classical.em (i = i4)).elim (fun e => fun q => by rw [e] at q; have z := (wb_wr (hwok i4 (by omega) (by omega)) ⟨by omega, by omega⟩ f13).mpr q; omega) (fun e => hO i a (by omega) c)) rfl)
        · exact tn_sub [0, 1, 2, 3] rfl (hx_34 (i4) (by omega) True.intro (fun q => q i4 (by omega) (by omega) (by omega) ((wb_wr (hwok i4 (by omega) (by omega)) ⟨by omega, by omega⟩ f13).mp (by omega))))
set_option maxHeartbeats 1000000 in
set_option maxRecDepth 20000 in
theorem k_X6_isOnlyWriter_x (d : Nat) {T : CT} {σ : MS} {a : Nat} {p1 : Nat} {p2 : Int} {x : Nat} {n : Int} {W : Int → It} (ha : OB T a 6) (h_p1 : OB T p1 1) (t_p1 : (T p1).1 = 50) (h_p2 : -2147483648 ≤ p2 ∧ p2 ≤ 2147483647) (hw : WT T σ) (hx : σ.2.1 5 p1 = (x : Int)) (hn : σ.2.1 6 p1 = n) (hW : cW σ x n = W) (hN : n ≤ 200) (hwok : WOK W n) (hk : 0 ≤ p2 ∧ p2 < n) (hpu : W p2 0 ≤ 5) : Tn (d + 3) m_X6_isOnlyWriter 0 T σ [(0, .ref a), (1, .ref p1), (2, .int (iI p2))] [] (fun ro T2 σ2 => ∃ v : Int, ro = some (.int (iI v)) ∧ T = T2 ∧ σ = σ2 ∧ (v = 0 ∨ v = 1) ∧ ((v = 1 ∧ OWQ W n p2) ∨ (v = 0 ∧ ¬ OWQ W n p2))) := by
  refine tn_aload_n dX6_isOnlyWriter_0 rfl 1 rfl ?_
  refine tn_iload_n dX6_isOnlyWriter_1 rfl 2 rfl ?_
  obtain ⟨hl4, hk3a, hk3b⟩ := cel_of (wf_5 hw h_p1) hx
  have hk3 : (T x).1 = 1 := hk3a (by omega)
  clear hk3a hk3b
  have hk3i : IA T x := by unfold IA; omega
  refine tn_callV (M := m_X6_isOnlyWriter) (pc := 2) (ix := 84) (ci := 1) (M' := m_X1_writtenBy) (As := [.int (iI p2)]) (rest := []) dX6_isOnlyWriter_2 ok_X1_writtenBy im_X1_writtenBy se_X1_writtenBy ml6_84 np_X1_writtenBy rfl rfl h_p1 rfl (Nat.le_of_ble_eq_true rfl) (Nat.le_of_ble_eq_true rfl) rfl (k_X1_writtenBy_x (d) (T := T) (σ := σ) (a := p1) (k := p2) (x := x) (n := n) (W := W) h_p1 (by omega) hw (hx) (hn) hW (by omega)) (fun r5 T7 σ6 gt8 hp => ?_)
  obtain ⟨v11, rfl, rfl, rfl, f9, f10⟩ := hp
  clear gt8
  show Tn _ _ 5 T σ [(0, .ref a), (1, .ref p1), (2, .int (iI p2))] [.int (iI v11)] _
  refine tn_istore_n (L' := [(3, .int (iI v11)), (0, .ref a), (1, .ref p1), (2, .int (iI p2))]) dX6_isOnlyWriter_5 rfl (by decide) rfl ?_
  refine tn_iconst dX6_isOnlyWriter_6 ?_
  refine tn_istore (L' := [(4, .int (iI 0)), (3, .int (iI v11)), (0, .ref a), (1, .ref p1), (2, .int (iI p2))]) dX6_isOnlyWriter_7 (by decide) rfl ?_
  refine tn_sub [3, 4, 1, 0] rfl (l_X6_isOnlyWriter_x_9 (d) (T := T) (σ := σ) (rx1 := p1) (c2 := p2) (c3 := v11) (x := x) (n := n) (W := (W)) h_p1 t_p1 (by omega) (by omega) hw (by omega) (by have z := f10; unfold WBQ at z; have z2 := hwok p2 (by omega) (by omega); have z3 := z2.1; have z4 := z2.2.1; omega) (hx) (hn) hW hN hwok (fun i412 r18 f19 f20 => ?_) (fun i421 r27 f28 f29 => ?_) _ (0) (by omega) (fun i a b => by omega) rfl)
  · show Tn _ _ 34 T σ [(1, .ref p1), (2, .int (iI p2)), (3, .int (iI v11)), (4, .int (iI i412))] [] _
    refine tn_iconst dX6_isOnlyWriter_34 ?_
    exact tn_zret (v := 0) rfl (by decide) dX6_isOnlyWriter_35 ⟨_, rfl, rfl, rfl, by omega, Or.inr ⟨rfl, f20⟩⟩
  · show Tn _ _ 42 T σ [(1, .ref p1), (2, .int (iI p2)), (3, .int (iI v11)), (4, .int (iI i421))] [] _
    refine tn_iconst dX6_isOnlyWriter_42 ?_
    exact tn_zret (v := 1) rfl (by decide) dX6_isOnlyWriter_43 ⟨_, rfl, rfl, rfl, by omega, Or.inl ⟨rfl, f29⟩⟩
end
section
set_option maxHeartbeats 1000000 in
set_option maxRecDepth 20000 in
theorem l_X6_firstMovable_x_10 (d : Nat) {T : CT} {σ : MS} {a : Nat} {rx1 : Nat} {c3 : Int} {f0 : Int} {LB : Int → Int64} {x : Nat} {n : Int} {W : Int → It} {xw : Nat} {Fq : Int} {xn : Nat} {Rn : Int → Int} {xh : Nat} {Rh : Int → Int} {post : Option Value → CT → MS → Prop} (h_a : OB T a 6) (h_rx1 : OB T rx1 1) (t_rx1 : (T rx1).1 = 50) (r_c3 : -2147483648 ≤ c3 ∧ c3 ≤ 200) (hw : WT T σ) (hft : 0 ≤ f0 ∧ c3 < n) (hLB : σ.2.2 xw = LB) (hB : WCS W f0 c3 LB) (hx : σ.2.1 5 rx1 = (x : Int)) (hn : σ.2.1 6 rx1 = n) (hW : cW σ x n = W) (hxw : σ.2.1 54 a = (xw : Int)) (hFq : σ.2.1 10 rx1 = Fq) (hxn : σ.2.1 14 rx1 = (xn : Int)) (hRn : σ.2.1 (1000 + xn) = Rn) (hxh : σ.2.1 15 rx1 = (xh : Int)) (hRh : σ.2.1 (1000 + xh) = Rh) (hN : n ≤ 200) (hwok : WOK W n) (hx_63 : ∀ (i4 : Int) , (0 ≤ i4 ∧ i4 ≤ 2147483647) → (True) → (True) → (FMQ (hmC Fq Rn Rh) n (vW W) f0 c3 i4) → (f0 ≤ i4 ∧ i4 ≤ c3) → Tn (d + 5) m_X6_firstMovable 63 T σ [(0, .ref a), (1, .ref rx1), (3, .int (iI c3)), (4, .int (iI i4))] [] post) (hx_72 : ∀ (i4 : Int) , (0 ≤ i4 ∧ i4 ≤ 2147483647) → (True) → (True) → (FMQ (hmC Fq Rn Rh) n (vW W) f0 c3 (-1)) → Tn (d + 5) m_X6_firstMovable 72 T σ [(0, .ref a), (1, .ref rx1), (3, .int (iI c3)), (4, .int (iI i4))] [] post) : ∀ (nq9 : Nat) (i4 : Int) , (0 ≤ i4 ∧ i4 ≤ 2147483647) → (NMV (hmC Fq Rn Rh) n (vW W) f0 c3 i4) → (f0 ≤ i4) → (2147483700 - i4).toNat = nq9 → Tn (d + 5) m_X6_firstMovable 10 T σ [(0, .ref a), (1, .ref rx1), (3, .int (iI c3)), (4, .int (iI i4))] [] post := by
  intro nq9
  induction nq9 using Nat.strongRecOn with
  | _ nq9 ih =>
    intro i4 r_i4 hN_ h4 hm
    refine tn_iload dX6_firstMovable_10 3 rfl ?_
    refine tn_iload_n dX6_firstMovable_12 rfl 2 rfl ?_
    refine tn_icmp_gt (tgt := 72) dX6_firstMovable_13 (by decide) ⟨by omega, by omega⟩ ⟨by omega, by omega⟩ (fun h1 => ?_) (fun h1 => ?_)
    · exact tn_sub [0, 1, 2, 3] rfl (hx_72 (i4) (by omega) True.intro True.intro (hN_.none (by omega)))
    · refine tn_aload_n dX6_firstMovable_16 rfl 1 rfl ?_
      refine tn_iload dX6_firstMovable_17 3 rfl ?_
      refine tn_iconst dX6_firstMovable_19 ?_
      obtain ⟨hl5, hk4a, hk4b⟩ := cel_of (wf_5 hw h_rx1) hx
      have hk4 : (T x).1 = 1 := hk4a (by omega)
      clear hk4a hk4b
      have hk4i : IA T x := by unfold IA; omega
      refine tn_callV (M := m_X6_firstMovable) (pc := 20) (ix := 34) (ci := 1) (M' := m_X1_get) (As := [.int (iI i4), .int (iI 0)]) (rest := []) dX6_firstMovable_20 ok_X1_get im_X1_get se_X1_get ml6_34 np_X1_get rfl rfl h_rx1 rfl (Nat.le_of_ble_eq_true rfl) (Nat.le_of_ble_eq_true rfl) rfl (k_X1_get_x (d + 3) (T := T) (σ := σ) (a := rx1) (k := i4) (c := 0) (x := x) (n := n) (W := W) h_rx1 (by omega) (by decide) hw (hx) (hn) hW (by omega) (by omega)) (fun r6 T8 σ7 gt9 hp => ?_)
      obtain ⟨v12, rfl, rfl, rfl, f10, f11⟩ := hp
      clear gt9
      show Tn _ _ 23 T σ [(0, .ref a), (1, .ref rx1), (3, .int (iI c3)), (4, .int (iI i4))] [.int (iI v12)] _
      refine tn_callSN (M := m_X6_firstMovable) (pc := 23) (ix := 111) (M' := m_X11_isPure) (As := [.int (iI v12)]) (rest := []) dX6_firstMovable_23 ok_X11_isPure stt_X11_isPure nl6_111 np_X11_isPure rfl (Nat.le_of_ble_eq_true rfl) (Nat.le_of_ble_eq_true rfl) rfl (k_X11_isPure_x (d + 3) (T := T) (σ := σ) (k := v12) (by omega) hw ) (fun r13 T15 σ14 gt16 hp => ?_)
      obtain ⟨v19, rfl, rfl, rfl, f17, f18⟩ := hp
      clear gt16
      show Tn _ _ 26 T σ [(0, .ref a), (1, .ref rx1), (3, .int (iI c3)), (4, .int (iI i4))] [.int (iI v19)] _
      refine tn_if_eq (tgt := 66) dX6_firstMovable_26 (by decide) ⟨by omega, by omega⟩ (fun h20 => ?_) (fun h20 => ?_)
      · refine tn_iinc (q0 := 3) (L' := [(4, .int (iI (i4 + 1))), (0, .ref a), (1, .ref rx1), (3, .int (iI c3))]) dX6_firstMovable_66 rfl (by decide) rfl ?_
        refine tn_goto (tgt := 10) dX6_firstMovable_69 (by decide) ?_
        exact tn_sub [1, 2, 3, 0] rfl (ih _ (by omega) (i4 + 1) (by omega) (hN_.step (fun q => by have z := (mvK_iff hB hwok ⟨by omega, by omega⟩).mp q; exact (absurd z.1 (by have y := (hwok i4 (by omega) (by omega)).1; omega)))) (by omega) rfl)
      · refine tn_aload_n dX6_firstMovable_29 rfl 0 rfl ?_
        refine tn_aload_n dX6_firstMovable_30 rfl 1 rfl ?_
        refine tn_iload dX6_firstMovable_31 3 rfl ?_
        obtain ⟨hk23, hl24⟩ : AR T xw 3 3 3 := ar_of (wf_54 hw h_a) hxw
        refine tn_callV (M := m_X6_firstMovable) (pc := 33) (ix := 114) (ci := 6) (M' := m_X6_standsStill) (As := [.ref rx1, .int (iI i4)]) (rest := []) dX6_firstMovable_33 ok_X6_standsStill im_X6_standsStill se_X6_standsStill ml6_114 np_X6_standsStill rfl rfl h_a rfl (Nat.le_of_ble_eq_true rfl) (Nat.le_of_ble_eq_true rfl) rfl (k_X6_standsStill_x (d + 1) (T := T) (σ := σ) (a := a) (p1 := rx1) (p2 := i4) (x := x) (n := n) (W := W) (xw := xw) (Lw := LB) h_a h_rx1 t_rx1 (by omega) hw (hx) (hn) hW (hxw) hLB (by omega)) (fun r25 T27 σ26 gt28 hp => ?_)
        obtain ⟨v31, rfl, rfl, rfl, f29, f30⟩ := hp
        clear gt28
        show Tn _ _ 36 T σ [(0, .ref a), (1, .ref rx1), (3, .int (iI c3)), (4, .int (iI i4))] [.int (iI v31)] _
        refine tn_if_eq (tgt := 66) dX6_firstMovable_36 (by decide) ⟨by omega, by omega⟩ (fun h32 => ?_) (fun h32 => ?_)
        · refine tn_iinc (q0 := 3) (L' := [(4, .int (iI (i4 + 1))), (0, .ref a), (1, .ref rx1), (3, .int (iI c3))]) dX6_firstMovable_66 rfl (by decide) rfl ?_
          refine tn_goto (tgt := 10) dX6_firstMovable_69 (by decide) ?_
          exact tn_sub [1, 2, 3, 0] rfl (ih _ (by omega) (i4 + 1) (by omega) (hN_.step (fun q => by have z := (mvK_iff hB hwok ⟨by omega, by omega⟩).mp q; exact ((f30.resolve_left (fun q => absurd q.1 (by omega))).2.elim z.2.1.1 z.2.1.2))) (by omega) rfl)
        · refine tn_aload_n dX6_firstMovable_39 rfl 1 rfl ?_
          refine tn_aload_n dX6_firstMovable_40 rfl 1 rfl ?_
          refine tn_iload dX6_firstMovable_41 3 rfl ?_
          refine tn_iconst dX6_firstMovable_43 ?_
          refine tn_callV (M := m_X6_firstMovable) (pc := 44) (ix := 34) (ci := 1) (M' := m_X1_get) (As := [.int (iI i4), .int (iI 1)]) (rest := [.ref rx1]) dX6_firstMovable_44 ok_X1_get im_X1_get se_X1_get ml6_34 np_X1_get rfl rfl h_rx1 rfl (Nat.le_of_ble_eq_true rfl) (Nat.le_of_ble_eq_true rfl) rfl (k_X1_get_x (d + 3) (T := T) (σ := σ) (a := rx1) (k := i4) (c := 1) (x := x) (n := n) (W := W) h_rx1 (by omega) (by decide) hw (hx) (hn) hW (by omega) (by omega)) (fun r33 T35 σ34 gt36 hp => ?_)
          obtain ⟨v39, rfl, rfl, rfl, f37, f38⟩ := hp
          clear gt36
          show Tn _ _ 47 T σ [(0, .ref a), (1, .ref rx1), (3, .int (iI c3)), (4, .int (iI i4))] [.int (iI v39), .ref rx1] _
          obtain ⟨hk42, hl43⟩ : AR T xn 11 12 12 := ar_of (wf_14 hw h_rx1) hxn
          have hk42i : IA T xn := by unfold IA; omega
          obtain ⟨hk46, hl47⟩ : AR T xh 1 144 144 := ar_of (wf_15 hw h_rx1) hxh
          have hk46i : IA T xh := by unfold IA; omega
          refine tn_callV (M := m_X6_firstMovable) (pc := 47) (ix := 117) (ci := 1) (M' := m_X1_isHome) (As := [.int (iI v39)]) (rest := []) dX6_firstMovable_47 ok_X1_isHome im_X1_isHome se_X1_isHome ml6_117 np_X1_isHome rfl rfl h_rx1 rfl (Nat.le_of_ble_eq_true rfl) (Nat.le_of_ble_eq_true rfl) rfl (k_X1_isHome_x (d + 1) (T := T) (σ := σ) (a := rx1) (r := v39) (Fq := Fq) (xn := xn) (Rn := Rn) (xh := xh) (Rh := Rh) h_rx1 (by omega) hw (hFq) (hxn) hRn (hxh) hRh) (fun r48 T50 σ49 gt51 hp => ?_)
          obtain ⟨v54, rfl, rfl, rfl, f52, f53⟩ := hp
          clear gt51
          show Tn _ _ 50 T σ [(0, .ref a), (1, .ref rx1), (3, .int (iI c3)), (4, .int (iI i4))] [.int (iI v54)] _
          refine tn_if_ne (tgt := 66) dX6_firstMovable_50 (by decide) ⟨by omega, by omega⟩ (fun h55 => ?_) (fun h55 => ?_)
          · refine tn_iinc (q0 := 3) (L' := [(4, .int (iI (i4 + 1))), (0, .ref a), (1, .ref rx1), (3, .int (iI c3))]) dX6_firstMovable_66 rfl (by decide) rfl ?_
            refine tn_goto (tgt := 10) dX6_firstMovable_69 (by decide) ?_
            exact tn_sub [1, 2, 3, 0] rfl (ih _ (by omega) (i4 + 1) (by omega) (hN_.step (fun q => by have z := (mvK_iff hB hwok ⟨by omega, by omega⟩).mp q; exact (z.2.2.1 (by have y := (f53.resolve_right (fun q => absurd q.1 (by omega))).2; rw [f38] at y; exact y)))) (by omega) rfl)
          · refine tn_aload_n dX6_firstMovable_53 rfl 0 rfl ?_
            refine tn_aload_n dX6_firstMovable_54 rfl 1 rfl ?_
            refine tn_iload dX6_firstMovable_55 3 rfl ?_
            refine tn_callV (M := m_X6_firstMovable) (pc := 57) (ix := 120) (ci := 6) (M' := m_X6_isOnlyWriter) (As := [.ref rx1, .int (iI i4)]) (rest := []) dX6_firstMovable_57 ok_X6_isOnlyWriter im_X6_isOnlyWriter se_X6_isOnlyWriter ml6_120 np_X6_isOnlyWriter rfl rfl h_a rfl (Nat.le_of_ble_eq_true rfl) (Nat.le_of_ble_eq_true rfl) rfl (k_X6_isOnlyWriter_x (d + 1) (T := T) (σ := σ) (a := a) (p1 := rx1) (p2 := i4) (x := x) (n := n) (W := W) h_a h_rx1 t_rx1 (by omega) hw (hx) (hn) hW (by omega) (by omega) (by omega) (by omega)) (fun r56 T58 σ57 gt59 hp => ?_)
            obtain ⟨v62, rfl, rfl, rfl, f60, f61⟩ := hp
            clear gt59
            show Tn _ _ 60 T σ [(0, .ref a), (1, .ref rx1), (3, .int (iI c3)), (4, .int (iI i4))] [.int (iI v62)] _
            refine tn_if_eq (tgt := 66) dX6_firstMovable_60 (by decide) ⟨by omega, by omega⟩ (fun h63 => ?_) (fun h63 => ?_)
            · refine tn_iinc (q0 := 3) (L' := [(4, .int (iI (i4 + 1))), (0, .ref a), (1, .ref rx1), (3, .int (iI c3))]) dX6_firstMovable_66 rfl (by decide) rfl ?_
              refine tn_goto (tgt := 10) dX6_firstMovable_69 (by decide) ?_
              exact tn_sub [1, 2, 3, 0] rfl (ih _ (by omega) (i4 + 1) (by omega) (hN_.step (fun q => by have z := (mvK_iff hB hwok ⟨by omega, by omega⟩).mp q; exact ((f61.resolve_left (fun q => absurd q.1 (by omega))).2 z.2.2.2))) (by omega) rfl)
            · exact tn_sub [0, 1, 2, 3] rfl (hx_63 (i4) (by omega) True.intro True.intro (hN_.some ⟨by omega, by omega, by omega⟩ ((mvK_iff hB hwok ⟨by omega, by omega⟩).mpr ⟨by omega, (f30.resolve_right (fun q => absurd q.1 (by omega))).2, (by have z := (f53.resolve_left (fun q => absurd q.1 (by omega))).2; rw [f38] at z; exact z), (f61.resolve_right (fun q => absurd q.1 (by omega))).2⟩)) (by omega))
set_option maxHeartbeats 1000000 in
set_option maxRecDepth 20000 in
theorem k_X6_firstMovable_x (d : Nat) {T : CT} {σ : MS} {a : Nat} {p1 : Nat} {p2 : Int} {p3 : Int} {x : Nat} {n : Int} {W : Int → It} {xw : Nat} {Fq : Int} {xn : Nat} {Rn : Int → Int} {xh : Nat} {Rh : Int → Int} (ha : OB T a 6) (h_p1 : OB T p1 1) (t_p1 : (T p1).1 = 50) (h_p2 : -2147483648 ≤ p2 ∧ p2 ≤ 2147483647) (h_p3 : -2147483648 ≤ p3 ∧ p3 ≤ 2147483647) (hw : WT T σ) (hx : σ.2.1 5 p1 = (x : Int)) (hn : σ.2.1 6 p1 = n) (hW : cW σ x n = W) (hxw : σ.2.1 54 a = (xw : Int)) (hFq : σ.2.1 10 p1 = Fq) (hxn : σ.2.1 14 p1 = (xn : Int)) (hRn : σ.2.1 (1000 + xn) = Rn) (hxh : σ.2.1 15 p1 = (xh : Int)) (hRh : σ.2.1 (1000 + xh) = Rh) (hN : n ≤ 200) (hwok : WOK W n) (hft : (0 ≤ p2 ∧ p2 ≤ 400) ∧ -1 ≤ p3 ∧ p3 < n) : Tn (d + 5) m_X6_firstMovable 0 T σ [(0, .ref a), (1, .ref p1), (2, .int (iI p2)), (3, .int (iI p3))] [] (fun ro T2 σ2 => ∃ v : Int, ro = some (.int (iI v)) ∧ T = T2 ∧ WT T2 σ2 ∧ FrC T [] σ σ2 ∧ (-2147483648 ≤ v ∧ v ≤ 2147483647) ∧ (CHX [] [] [xw] σ σ2) ∧ (FMQ (hmC Fq Rn Rh) n (vW W) p2 p3 v) ∧ (v = -1 ∨ (p2 ≤ v ∧ v ≤ p3))) := by
  refine tn_aload_n dX6_firstMovable_0 rfl 0 rfl ?_
  refine tn_aload_n dX6_firstMovable_1 rfl 1 rfl ?_
  refine tn_iload_n dX6_firstMovable_2 rfl 2 rfl ?_
  refine tn_iload_n dX6_firstMovable_3 rfl 3 rfl ?_
  obtain ⟨hl4, hk3a, hk3b⟩ := cel_of (wf_5 hw h_p1) hx
  have hk3 : (T x).1 = 1 := hk3a (by omega)
  clear hk3a hk3b
  have hk3i : IA T x := by unfold IA; omega
  obtain ⟨hk7, hl8⟩ : AR T xw 3 3 3 := ar_of (wf_54 hw ha) hxw
  refine tn_callV (M := m_X6_firstMovable) (pc := 4) (ix := 107) (ci := 6) (M' := m_X6_collectWritten) (As := [.ref p1, .int (iI p2), .int (iI p3)]) (rest := []) dX6_firstMovable_4 ok_X6_collectWritten im_X6_collectWritten se_X6_collectWritten ml6_107 np_X6_collectWritten rfl rfl ha rfl (Nat.le_of_ble_eq_true rfl) (Nat.le_of_ble_eq_true rfl) rfl (k_X6_collectWritten_x (d) (T := T) (σ := σ) (a := a) (p1 := p1) (p2 := p2) (p3 := p3) (x := x) (n := n) (W := W) (xw := xw) ha h_p1 t_p1 (by omega) (by omega) hw (hx) (hn) hW (hxw) (by omega) (by omega) (by omega)) (fun r9 T11 σ10 gt12 hp => ?_)
  obtain ⟨rfl, rfl, w16, F17, f13, f14⟩ := hp
  clear gt12
  show Tn _ _ 7 T σ10 [(0, .ref a), (1, .ref p1), (2, .int (iI p2)), (3, .int (iI p3))] [] _
  refine tn_iload_n dX6_firstMovable_7 rfl 2 rfl ?_
  refine tn_istore (L' := [(4, .int (iI p2)), (0, .ref a), (1, .ref p1), (2, .int (iI p2)), (3, .int (iI p3))]) dX6_firstMovable_8 (by decide) rfl ?_
  have cv18 : cW σ10 x n = W := (cW_row (CHX.r f13 (by first | (simp; done) | (simp only [List.mem_cons, List.not_mem_nil, or_false, not_or]; omega)))).trans (hW)
  have cv19 : σ10.2.1 (1000 + xn) = Rn := (CHX.r f13 (by first | (simp; done) | (simp only [List.mem_cons, List.not_mem_nil, or_false, not_or]; omega))).trans (hRn)
  have cv20 : σ10.2.1 (1000 + xh) = Rh := (CHX.r f13 (by first | (simp; done) | (simp only [List.mem_cons, List.not_mem_nil, or_false, not_or]; omega))).trans (hRh)
  refine tn_sub [1, 2, 4, 0] rfl (l_X6_firstMovable_x_10 (d) (T := T) (σ := σ10) (a := a) (rx1 := p1) (c3 := p3) (x := x) (n := n) (W := (W)) (xw := xw) (Fq := Fq) (xn := xn) (Rn := (Rn)) (xh := xh) (Rh := (Rh)) (f0 := p2) (LB := (σ10.2.2 xw)) ha h_p1 t_p1 (by omega) w16 (by omega) rfl f14 (rc_F F17 (Or.inl (by decide)) (by decide) (hx)) (rc_F F17 (Or.inl (by decide)) (by decide) (hn)) cv18 (rc_F F17 (Or.inl (by decide)) (by decide) (hxw)) (rc_F F17 (Or.inl (by decide)) (by decide) (hFq)) (rc_F F17 (Or.inl (by decide)) (by decide) (hxn)) cv19 (rc_F F17 (Or.inl (by decide)) (by decide) (hxh)) cv20 hN hwok (fun i421 r27 f28 f29 f30 f31 => ?_) (fun i432 r38 f39 f40 f41 => ?_) _ (p2) (by omega) (fun i a b => by omega) (by omega) rfl)
  · show Tn _ _ 63 T σ10 [(0, .ref a), (1, .ref p1), (3, .int (iI p3)), (4, .int (iI i421))] [] _
    refine tn_iload dX6_firstMovable_63 3 rfl ?_
    exact tn_iret rfl dX6_firstMovable_65 ⟨_, rfl, rfl, w16, (FrC.rfl.trans (FrC.sub F17 (by decide))), by omega, (CHX.rfl.trans (CHX.sub f13 (by simp) (by simp) (by simp))), f30, by omega⟩
  · show Tn _ _ 72 T σ10 [(0, .ref a), (1, .ref p1), (3, .int (iI p3)), (4, .int (iI i432))] [] _
    refine tn_iconst dX6_firstMovable_72 ?_
    exact tn_iret rfl dX6_firstMovable_73 ⟨_, rfl, rfl, w16, (FrC.rfl.trans (FrC.sub F17 (by decide))), by omega, (CHX.rfl.trans (CHX.sub f13 (by simp) (by simp) (by simp))), f41, by omega⟩
end
section
set_option maxHeartbeats 1000000 in
set_option maxRecDepth 20000 in
theorem k_X1_liftRow_x (d : Nat) {T : CT} {σ : MS} {a : Nat} {f : Int} {t : Int} {x : Nat} {n : Int} {W : Int → It} {xl : Nat} (ha : OB T a 1) (hta : (T a).1 = 50) (h_f : -2147483648 ≤ f ∧ f ≤ 2147483647) (h_t : -2147483648 ≤ t ∧ t ≤ 2147483647) (hw : WT T σ) (hx : σ.2.1 5 a = (x : Int)) (hn : σ.2.1 6 a = n) (hW : cW σ x n = W) (hxl : σ.2.1 16 a = (xl : Int)) (hN : n ≤ 200) (hnl : x ≠ xl) (hft : 0 ≤ t ∧ t ≤ f ∧ f < n) : Tn (d + 1) m_X1_liftRow 0 T σ [(0, .ref a), (1, .int (iI f)), (2, .int (iI t))] [] (fun ro T2 σ2 => ro = none ∧ T = T2 ∧ WT T2 σ2 ∧ FrC T [] σ σ2 ∧ (CHX [] [x, xl] [] σ σ2) ∧ (cW σ2 x n = liV W f t)) := by
  refine tn_iload_n dX1_liftRow_0 rfl 2 rfl ?_
  refine tn_if_lt (tgt := 32) dX1_liftRow_1 (by decide) ⟨by omega, by omega⟩ (fun h1 => ?_) (fun h1 => ?_)
  · exact tn_vret rfl dX1_liftRow_32 ⟨rfl, rfl, hw, FrC.rfl, CHX.rfl, False.elim (by omega)⟩
  · refine tn_iload_n dX1_liftRow_4 rfl 2 rfl ?_
    refine tn_iload_n dX1_liftRow_5 rfl 1 rfl ?_
    refine tn_icmp_gt (tgt := 32) dX1_liftRow_6 (by decide) ⟨by omega, by omega⟩ ⟨by omega, by omega⟩ (fun h2 => ?_) (fun h2 => ?_)
    · exact tn_vret rfl dX1_liftRow_32 ⟨rfl, rfl, hw, FrC.rfl, CHX.rfl, False.elim (by omega)⟩
    · refine tn_iload_n dX1_liftRow_9 rfl 1 rfl ?_
      refine tn_aload_n dX1_liftRow_10 rfl 0 rfl ?_
      refine tn_getI (ci := 1) (i := 1) (n := 6) (t := σ.2.1 6 a) dX1_liftRow_11 rfl lay_1 (by decide) fl1_33 ha rfl rfl (rfl) ?_
      have g3 : ((0 : Int) ≤ σ.2.1 6 a ∧ σ.2.1 6 a ≤ 5000) ∧ ((T a).1 = 50 → σ.2.1 6 a ≤ 200) := wf_6 hw ha
      have g3x := g3.2
      replace g3 := g3.1
      have g3x := g3x hta
      refine tn_icmp_ge (tgt := 32) dX1_liftRow_14 (by decide) ⟨by omega, by omega⟩ ⟨by omega, by omega⟩ (fun h4 => ?_) (fun h4 => ?_)
      · exact tn_vret rfl dX1_liftRow_32 ⟨rfl, rfl, hw, FrC.rfl, CHX.rfl, False.elim (by omega)⟩
      · refine tn_aload_n dX1_liftRow_17 rfl 0 rfl ?_
        refine tn_getI (ci := 1) (i := 1) (n := 6) (t := σ.2.1 6 a) dX1_liftRow_18 rfl lay_1 (by decide) fl1_33 ha rfl rfl (rfl) ?_
        refine tn_bipush dX1_liftRow_21 (by decide) ?_
        refine tn_imul dX1_liftRow_23 ?_
        refine tn_aload_n dX1_liftRow_24 rfl 0 rfl ?_
        obtain ⟨hl8, hk7a, hk7b⟩ := cel_of (wf_5 hw ha) hx
        have hk7 : (T x).1 = 1 := hk7a (by omega)
        clear hk7a hk7b
        have hk7i : IA T x := by unfold IA; omega
        refine tn_getR (ci := 1) (i := 0) (n := 5) (x := x) dX1_liftRow_25 rfl lay_1 (by decide) fl1_9 ha rfl rfl (hx) ?_
        refine tn_alenX dX1_liftRow_28 (Or.inl hk7i) ?_
        refine tn_icmp_le (tgt := 33) dX1_liftRow_29 (by decide) ⟨by omega, by omega⟩ ⟨by omega, by omega⟩ (fun h9 => ?_) (fun h9 => ?_)
        · refine tn_aload_n dX1_liftRow_33 rfl 0 rfl ?_
          refine tn_getR (ci := 1) (i := 0) (n := 5) (x := x) dX1_liftRow_34 rfl lay_1 (by decide) fl1_9 ha rfl rfl (hx) ?_
          refine tn_iload_n dX1_liftRow_37 rfl 1 rfl ?_
          refine tn_bipush dX1_liftRow_38 (by decide) ?_
          refine tn_imul dX1_liftRow_40 ?_
          refine tn_aload_n dX1_liftRow_41 rfl 0 rfl ?_
          obtain ⟨hk12, hl13⟩ : AR T xl 1 13 13 := ar_of (wf_16 hw ha) hxl
          have hk12i : IA T xl := by unfold IA; omega
          refine tn_getR (ci := 1) (i := 11) (n := 16) (x := xl) dX1_liftRow_42 rfl lay_1 (by decide) fl1_30 ha rfl rfl (hxl) ?_
          refine tn_iconst dX1_liftRow_45 ?_
          refine tn_bipush dX1_liftRow_46 (by decide) ?_
          refine tn_acopyI (a := x) (b := xl) (sp := f * 13) (dp := 0) (n := 13) dX1_liftRow_48 mla1_80 acNat acSt acIni hk7i hk12i ⟨by omega, by omega⟩ (by omega) (by omega) (by omega) (by omega) (by omega) (by omega) (Nat.le_of_ble_eq_true rfl) ?_
          refine tn_aload_n dX1_liftRow_51 rfl 0 rfl ?_
          refine tn_getR (ci := 1) (i := 0) (n := 5) (x := x) dX1_liftRow_52 rfl lay_1 (by decide) fl1_9 ha rfl rfl (rc_r (Or.inl (by decide)) (hx)) ?_
          refine tn_iload_n dX1_liftRow_55 rfl 2 rfl ?_
          refine tn_bipush dX1_liftRow_56 (by decide) ?_
          refine tn_imul dX1_liftRow_58 ?_
          refine tn_aload_n dX1_liftRow_59 rfl 0 rfl ?_
          refine tn_getR (ci := 1) (i := 0) (n := 5) (x := x) dX1_liftRow_60 rfl lay_1 (by decide) fl1_9 ha rfl rfl (rc_r (Or.inl (by decide)) (hx)) ?_
          refine tn_iload_n dX1_liftRow_63 rfl 2 rfl ?_
          refine tn_iconst dX1_liftRow_64 ?_
          refine tn_iadd dX1_liftRow_65 ?_
          refine tn_bipush dX1_liftRow_66 (by decide) ?_
          refine tn_imul dX1_liftRow_68 ?_
          refine tn_iload_n dX1_liftRow_69 rfl 1 rfl ?_
          refine tn_iload_n dX1_liftRow_70 rfl 2 rfl ?_
          refine tn_isub dX1_liftRow_71 ?_
          refine tn_bipush dX1_liftRow_72 (by decide) ?_
          refine tn_imul dX1_liftRow_74 ?_
          refine tn_acopyI (a := x) (b := x) (sp := t * 13) (dp := (t + 1) * 13) (n := (f - t) * 13) dX1_liftRow_75 mla1_80 acNat acSt acIni hk7i hk7i ⟨by omega, by omega⟩ (by omega) (by omega) (by omega) (by omega) (by omega) (by omega) (Nat.le_of_ble_eq_true rfl) ?_
          refine tn_aload_n dX1_liftRow_78 rfl 0 rfl ?_
          refine tn_getR (ci := 1) (i := 11) (n := 16) (x := xl) dX1_liftRow_79 rfl lay_1 (by decide) fl1_30 ha rfl rfl (rc_r (Or.inl (by decide)) (rc_r (Or.inl (by decide)) (hxl))) ?_
          refine tn_iconst dX1_liftRow_82 ?_
          refine tn_aload_n dX1_liftRow_83 rfl 0 rfl ?_
          refine tn_getR (ci := 1) (i := 0) (n := 5) (x := x) dX1_liftRow_84 rfl lay_1 (by decide) fl1_9 ha rfl rfl (rc_r (Or.inl (by decide)) (rc_r (Or.inl (by decide)) (hx))) ?_
          refine tn_iload_n dX1_liftRow_87 rfl 2 rfl ?_
          refine tn_bipush dX1_liftRow_88 (by decide) ?_
          refine tn_imul dX1_liftRow_90 ?_
          refine tn_bipush dX1_liftRow_91 (by decide) ?_
          refine tn_acopyI (a := xl) (b := x) (sp := 0) (dp := t * 13) (n := 13) dX1_liftRow_93 mla1_80 acNat acSt acIni hk12i hk7i ⟨by omega, by omega⟩ (by omega) (by omega) (by omega) (by omega) (by omega) (by omega) (Nat.le_of_ble_eq_true rfl) ?_
          exact tn_vret rfl dX1_liftRow_96 ⟨rfl, rfl, (((hw.row (Or.inl hk12i) (vok_cp1 hw hk7i hk12i (by have q9 := hk12; omega))).row (Or.inl hk7i) (vok_cp1 (hw.row (Or.inl hk12i) (vok_cp1 hw hk7i hk12i (by have q9 := hk12; omega))) hk7i hk7i (by have q9 := hk7; omega))).row (Or.inl hk7i) (vok_cp1 ((hw.row (Or.inl hk12i) (vok_cp1 hw hk7i hk12i (by have q9 := hk12; omega))).row (Or.inl hk7i) (vok_cp1 (hw.row (Or.inl hk12i) (vok_cp1 hw hk7i hk12i (by have q9 := hk12; omega))) hk7i hk7i (by have q9 := hk7; omega))) hk12i hk7i (by have q9 := hk7; omega))), (((FrC.rfl.row (hk_no (nh_k hk12 (by unfold HT; omega)))).row (hk_no (nh_k hk7 (by unfold HT; omega)))).row (hk_no (nh_k hk7 (by unfold HT; omega)))), (((CHX.rfl.row (by simp)).row (by simp)).row (by simp)), (by rw [← hW]; exact cW_lift hnl ⟨by omega, by omega, by omega⟩ (by omega) (by omega) (by omega) (by omega) (by omega) rfl rfl)⟩
        · have g14 : 13 * σ.2.1 6 a ≤ ((T x).2 : Int) ∨ 2600 ≤ (T x).2 := hw.2.1 a x ha hx
          exact tn_vret rfl dX1_liftRow_32 ⟨rfl, rfl, hw, FrC.rfl, CHX.rfl, False.elim (by omega)⟩
end
section
set_option maxHeartbeats 1000000 in
set_option maxRecDepth 20000 in
theorem l_X6_emptyLoop_x_13 (d : Nat) {T : CT} {σ0 : MS} {a : Nat} {rx1 : Nat} {c2 : Int} {c3 : Int} {x : Nat} {n : Int} {W : Int → It} {xw : Nat} {Fq : Int} {xn : Nat} {Rn : Int → Int} {xh : Nat} {Rh : Int → Int} {xl : Nat} {post : Option Value → CT → MS → Prop} (h_a : OB T a 6) (h_rx1 : OB T rx1 1) (t_rx1 : (T rx1).1 = 50) (r_c2 : 0 ≤ c2 ∧ c2 ≤ 200) (r_c3 : -1 ≤ c3 ∧ c3 ≤ 200) (hw0 : WT T σ0) (hk : 0 ≤ c2 ∧ c2 < n) (h3 : -1 ≤ c3 ∧ c3 < n) (hx : σ0.2.1 5 rx1 = (x : Int)) (hn : σ0.2.1 6 rx1 = n) (hxw : σ0.2.1 54 a = (xw : Int)) (hFq : σ0.2.1 10 rx1 = Fq) (hxn : σ0.2.1 14 rx1 = (xn : Int)) (hRn : σ0.2.1 (1000 + xn) = Rn) (hxh : σ0.2.1 15 rx1 = (xh : Int)) (hRh : σ0.2.1 (1000 + xh) = Rh) (hxl : σ0.2.1 16 rx1 = (xl : Int)) (hN : n ≤ 200) (hne : x ≠ xl ∧ x ≠ xn ∧ x ≠ xh ∧ xl ≠ xn ∧ xl ≠ xh) (hx_37 : ∀ (i4 : Int) (i5 : Int) (σ : MS) , (WT T σ) → (FrC T [] σ0 σ) → (0 ≤ i4 ∧ i4 ≤ 400) → (0 ≤ i5 ∧ i5 ≤ 200) → (CHX [] [x, xl] [xw] σ0 σ) → (MVT (hmC Fq Rn Rh) n c3 i5.toNat (vW W) c2 (vW (cW σ x n)) i4) → (WOK (cW σ x n) n) → (i4 = c2 + i5 ∧ i5 ≤ 200) → (True) → (FMQ (hmC Fq Rn Rh) n (vW (cW σ x n)) i4 c3 (-1)) → (c3 = -1 → i5 = 0) → Tn (d + 6) m_X6_emptyLoop 37 T σ [(0, .ref a), (1, .ref rx1), (2, .int (iI c2)), (3, .int (iI c3)), (4, .int (iI i4)), (5, .int (iI i5))] [] post) (hx_57 : ∀ (i4 : Int) (i5 : Int) (σ : MS) , (WT T σ) → (FrC T [] σ0 σ) → (0 ≤ i4 ∧ i4 ≤ 400) → (0 ≤ i5 ∧ i5 ≤ 200) → (CHX [] [x, xl] [xw] σ0 σ) → (MVT (hmC Fq Rn Rh) n c3 i5.toNat (vW W) c2 (vW (cW σ x n)) i4) → (WOK (cW σ x n) n) → (i4 = c2 + i5 ∧ i5 ≤ 200) → (True) → (FMQ (hmC Fq Rn Rh) n (vW (cW σ x n)) i4 c3 (-1)) → (c3 = -1 → i5 = 0) → Tn (d + 6) m_X6_emptyLoop 57 T σ [(0, .ref a), (1, .ref rx1), (2, .int (iI c2)), (3, .int (iI c3)), (4, .int (iI i4)), (5, .int (iI i5))] [] post) : ∀ (nq9 : Nat) (i4 : Int) (i5 : Int) (σ : MS) , (WT T σ) → (FrC T [] σ0 σ) → (0 ≤ i4 ∧ i4 ≤ 400) → (0 ≤ i5 ∧ i5 ≤ 200) → (CHX [] [x, xl] [xw] σ0 σ) → (MVT (hmC Fq Rn Rh) n c3 i5.toNat (vW W) c2 (vW (cW σ x n)) i4) → (WOK (cW σ x n) n) → (i4 = c2 + i5 ∧ i5 ≤ 200) → (c3 = -1 → i5 = 0) → (2147483700 - i5).toNat = nq9 → Tn (d + 6) m_X6_emptyLoop 13 T σ [(0, .ref a), (1, .ref rx1), (2, .int (iI c2)), (3, .int (iI c3)), (4, .int (iI i4)), (5, .int (iI i5))] [] post := by
  intro nq9
  induction nq9 using Nat.strongRecOn with
  | _ nq9 ih =>
    intro i4 i5 σ hw hF r_i4 r_i5 hC hM hwk h4 h9 hm
    refine tn_iload dX6_emptyLoop_13 5 rfl ?_
    refine tn_sipush dX6_emptyLoop_15 (by decide) ?_
    refine tn_icmp_ge (tgt := 57) dX6_emptyLoop_18 (by decide) ⟨by omega, by omega⟩ ⟨by decide, by decide⟩ (fun h1 => ?_) (fun h1 => ?_)
    · exact tn_sub [0, 1, 2, 3, 4, 5] rfl (hx_57 (i4) (i5) σ hw (FrC.rfl.trans (FrC.sub hF (by decide))) (by omega) (by omega) hC hM hwk (by omega) True.intro (Or.inl ⟨rfl, fun i a b => by omega⟩) h9)
    · refine tn_aload_n dX6_emptyLoop_21 rfl 0 rfl ?_
      refine tn_aload_n dX6_emptyLoop_22 rfl 1 rfl ?_
      refine tn_iload dX6_emptyLoop_23 4 rfl ?_
      refine tn_iload_n dX6_emptyLoop_25 rfl 3 rfl ?_
      obtain ⟨hl5, hk4a, hk4b⟩ := cel_of (wf_5 hw0 h_rx1) hx
      have hk4 : (T x).1 = 1 := hk4a (by omega)
      clear hk4a hk4b
      have hk4i : IA T x := by unfold IA; omega
      obtain ⟨hk8, hl9⟩ : AR T xw 3 3 3 := ar_of (wf_54 hw0 h_a) hxw
      obtain ⟨hk12, hl13⟩ : AR T xn 11 12 12 := ar_of (wf_14 hw0 h_rx1) hxn
      have hk12i : IA T xn := by unfold IA; omega
      have cv14 : σ.2.1 (1000 + xn) = Rn := (CHX.r hC (by first | (simp; done) | (simp only [List.mem_cons, List.not_mem_nil, or_false, not_or]; omega))).trans (hRn)
      obtain ⟨hk17, hl18⟩ : AR T xh 1 144 144 := ar_of (wf_15 hw0 h_rx1) hxh
      have hk17i : IA T xh := by unfold IA; omega
      have cv19 : σ.2.1 (1000 + xh) = Rh := (CHX.r hC (by first | (simp; done) | (simp only [List.mem_cons, List.not_mem_nil, or_false, not_or]; omega))).trans (hRh)
      refine tn_callV (M := m_X6_emptyLoop) (pc := 26) (ix := 99) (ci := 6) (M' := m_X6_firstMovable) (As := [.ref rx1, .int (iI i4), .int (iI c3)]) (rest := []) dX6_emptyLoop_26 ok_X6_firstMovable im_X6_firstMovable se_X6_firstMovable ml6_99 np_X6_firstMovable rfl rfl h_a rfl (Nat.le_of_ble_eq_true rfl) (Nat.le_of_ble_eq_true rfl) rfl (k_X6_firstMovable_x (d) (T := T) (σ := σ) (a := a) (p1 := rx1) (p2 := i4) (p3 := c3) (x := x) (n := n) (W := cW σ x n) (xw := xw) (Fq := Fq) (xn := xn) (Rn := Rn) (xh := xh) (Rh := Rh) h_a h_rx1 t_rx1 (by omega) (by omega) hw (rc_F hF (Or.inl (by decide)) (by decide) (hx)) (rc_F hF (Or.inl (by decide)) (by decide) (hn)) rfl (rc_F hF (Or.inl (by decide)) (by decide) (hxw)) (rc_F hF (Or.inl (by decide)) (by decide) (hFq)) (rc_F hF (Or.inl (by decide)) (by decide) (hxn)) cv14 (rc_F hF (Or.inl (by decide)) (by decide) (hxh)) cv19 (by omega) hwk (by omega)) (fun r20 T22 σ21 gt23 hp => ?_)
      obtain ⟨v28, rfl, rfl, w29, F30, f24, f25, f26, f27⟩ := hp
      clear gt23
      show Tn _ _ 29 T σ21 [(0, .ref a), (1, .ref rx1), (2, .int (iI c2)), (3, .int (iI c3)), (4, .int (iI i4)), (5, .int (iI i5))] [.int (iI v28)] _
      refine tn_istore (L' := [(6, .int (iI v28)), (0, .ref a), (1, .ref rx1), (2, .int (iI c2)), (3, .int (iI c3)), (4, .int (iI i4)), (5, .int (iI i5))]) dX6_emptyLoop_29 (by decide) rfl ?_
      refine tn_iload dX6_emptyLoop_31 0 rfl ?_
      refine tn_iconst dX6_emptyLoop_33 ?_
      refine tn_icmp_ne (tgt := 40) dX6_emptyLoop_34 (by decide) ⟨by omega, by omega⟩ ⟨by decide, by decide⟩ (fun h31 => ?_) (fun h31 => ?_)
      · refine tn_aload_n dX6_emptyLoop_40 rfl 2 rfl ?_
        refine tn_iload dX6_emptyLoop_41 0 rfl ?_
        refine tn_iload dX6_emptyLoop_43 5 rfl ?_
        have cv32 : cW σ21 x n = cW σ x n := (cW_row (CHX.r f25 (by first | (simp; done) | (simp only [List.mem_cons, List.not_mem_nil, or_false, not_or]; omega)))).trans (rfl)
        obtain ⟨hk35, hl36⟩ : AR T xl 1 13 13 := ar_of (wf_16 hw0 h_rx1) hxl
        have hk35i : IA T xl := by unfold IA; omega
        refine tn_callV (M := m_X6_emptyLoop) (pc := 45) (ix := 103) (ci := 1) (M' := m_X1_liftRow) (As := [.int (iI v28), .int (iI i4)]) (rest := []) dX6_emptyLoop_45 ok_X1_liftRow im_X1_liftRow se_X1_liftRow ml6_103 np_X1_liftRow rfl rfl h_rx1 rfl (Nat.le_of_ble_eq_true rfl) (Nat.le_of_ble_eq_true rfl) rfl (k_X1_liftRow_x (d + 4) (T := T) (σ := σ21) (a := rx1) (f := v28) (t := i4) (x := x) (n := n) (W := cW σ x n) (xl := xl) h_rx1 t_rx1 (by omega) (by omega) w29 (rc_F F30 (Or.inl (by decide)) (by decide) (rc_F hF (Or.inl (by decide)) (by decide) (hx))) (rc_F F30 (Or.inl (by decide)) (by decide) (rc_F hF (Or.inl (by decide)) (by decide) (hn))) cv32 (rc_F F30 (Or.inl (by decide)) (by decide) (rc_F hF (Or.inl (by decide)) (by decide) (hxl))) (by omega) (by omega) (by have z9 := (f26.resolve_left (fun q => absurd q.1 (by omega))).2; have z8 := z9.1; have z7 := z9.2.1; omega)) (fun r37 T39 σ38 gt40 hp => ?_)
        obtain ⟨rfl, rfl, w44, F45, f41, f42⟩ := hp
        clear gt40
        show Tn _ _ 48 T σ38 [(6, .int (iI v28)), (0, .ref a), (1, .ref rx1), (2, .int (iI c2)), (3, .int (iI c3)), (4, .int (iI i4)), (5, .int (iI i5))] [] _
        refine tn_iinc (q0 := 5) (L' := [(4, .int (iI (i4 + 1))), (6, .int (iI v28)), (0, .ref a), (1, .ref rx1), (2, .int (iI c2)), (3, .int (iI c3)), (5, .int (iI i5))]) dX6_emptyLoop_48 rfl (by decide) rfl ?_
        refine tn_iinc (q0 := 6) (L' := [(5, .int (iI (i5 + 1))), (4, .int (iI (i4 + 1))), (6, .int (iI v28)), (0, .ref a), (1, .ref rx1), (2, .int (iI c2)), (3, .int (iI c3))]) dX6_emptyLoop_51 rfl (by decide) rfl ?_
        refine tn_goto (tgt := 13) dX6_emptyLoop_54 (by decide) ?_
        exact tn_sub [3, 4, 5, 6, 1, 0] rfl (ih _ (by omega) (i4 + 1) (i5 + 1) σ38 w44 (((FrC.rfl.trans (FrC.sub hF (by decide))).trans (FrC.sub F30 (by decide))).trans (FrC.sub F45 (by decide))) (by omega) (by omega) ((hC.trans (CHX.sub f25 (by simp) (by simp) (by simp))).trans (CHX.sub f41 (by simp) (by simp) (by simp))) (by rw [show (i5 + 1).toNat = i5.toNat + 1 by omega, f42, vW_li]; exact hM.s (f26.resolve_left (fun q => absurd q.1 (by omega))).2 rfl) (by rw [f42]; exact hwk.li ((by have z9 := (f26.resolve_left (fun q => absurd q.1 (by omega))).2; have z8 := z9.1; have z7 := z9.2.1; omega))) (by omega) (fun e => by have z := (by have z9 := (f26.resolve_left (fun q => absurd q.1 (by omega))).2; have z8 := z9.1; have z7 := z9.2.1; omega); have z2 := (f26.resolve_left (fun q => absurd q.1 (by omega))).2.2.1; omega) rfl)
      · have cv46 : cW σ21 x n = cW σ x n := (cW_row (CHX.r f25 (by first | (simp; done) | (simp only [List.mem_cons, List.not_mem_nil, or_false, not_or]; omega)))).trans (rfl)
        exact tn_sub [1, 2, 3, 4, 5, 6] rfl (hx_37 (i4) (i5) σ21 w29 ((FrC.rfl.trans (FrC.sub hF (by decide))).trans (FrC.sub F30 (by decide))) (by omega) (by omega) (hC.trans (CHX.sub f25 (by simp) (by simp) (by simp))) (by rw [cv46]; exact hM) (by rw [cv46]; exact hwk) (by omega) True.intro (by rw [cv46]; have z := f26; rw [show v28 = -1 by omega] at z; exact z) h9)
set_option maxHeartbeats 1000000 in
set_option maxRecDepth 20000 in
theorem k_X6_emptyLoop_x (d : Nat) {T : CT} {σ : MS} {a : Nat} {p1 : Nat} {p2 : Int} {x : Nat} {n : Int} {W : Int → It} {xw : Nat} {Fq : Int} {xn : Nat} {Rn : Int → Int} {xh : Nat} {Rh : Int → Int} {xl : Nat} (ha : OB T a 6) (h_p1 : OB T p1 1) (t_p1 : (T p1).1 = 50) (h_p2 : -2147483648 ≤ p2 ∧ p2 ≤ 2147483647) (hw : WT T σ) (hx : σ.2.1 5 p1 = (x : Int)) (hn : σ.2.1 6 p1 = n) (hW : cW σ x n = W) (hxw : σ.2.1 54 a = (xw : Int)) (hFq : σ.2.1 10 p1 = Fq) (hxn : σ.2.1 14 p1 = (xn : Int)) (hRn : σ.2.1 (1000 + xn) = Rn) (hxh : σ.2.1 15 p1 = (xh : Int)) (hRh : σ.2.1 (1000 + xh) = Rh) (hxl : σ.2.1 16 p1 = (xl : Int)) (hN : n ≤ 200) (hne : x ≠ xl ∧ x ≠ xn ∧ x ≠ xh ∧ xl ≠ xn ∧ xl ≠ xh) (hwok : WOK W n) (hk : 0 ≤ p2 ∧ p2 < n) (hlab : W p2 0 = 13) : Tn (d + 6) m_X6_emptyLoop 0 T σ [(0, .ref a), (1, .ref p1), (2, .int (iI p2))] [] (fun ro T2 σ2 => ∃ v : Int, ro = some (.int (iI v)) ∧ T = T2 ∧ WT T2 σ2 ∧ FrC T [] σ σ2 ∧ (0 ≤ v ∧ v ≤ 200) ∧ (CHX [] [x, xl] [xw] σ σ2) ∧ (MVO (hmC Fq Rn Rh) n (vW W) p2 (vW (cW σ2 x n)) v) ∧ (WOK (cW σ2 x n) n)) := by
  refine tn_aload_n dX6_emptyLoop_0 rfl 0 rfl ?_
  refine tn_aload_n dX6_emptyLoop_1 rfl 1 rfl ?_
  refine tn_iload_n dX6_emptyLoop_2 rfl 2 rfl ?_
  obtain ⟨hl4, hk3a, hk3b⟩ := cel_of (wf_5 hw h_p1) hx
  have hk3 : (T x).1 = 1 := hk3a (by omega)
  clear hk3a hk3b
  have hk3i : IA T x := by unfold IA; omega
  refine tn_callV (M := m_X6_emptyLoop) (pc := 3) (ix := 96) (ci := 6) (M' := m_X6_lastJumpTo) (As := [.ref p1, .int (iI p2)]) (rest := []) dX6_emptyLoop_3 ok_X6_lastJumpTo im_X6_lastJumpTo se_X6_lastJumpTo ml6_96 np_X6_lastJumpTo rfl rfl ha rfl (Nat.le_of_ble_eq_true rfl) (Nat.le_of_ble_eq_true rfl) rfl (k_X6_lastJumpTo_x (d + 3) (T := T) (σ := σ) (a := a) (p1 := p1) (p2 := p2) (x := x) (n := n) (W := W) ha h_p1 t_p1 (by omega) hw (hx) (hn) hW (by omega) (by omega) (by omega)) (fun r5 T7 σ6 gt8 hp => ?_)
  obtain ⟨v12, rfl, rfl, rfl, f9, f10, f11⟩ := hp
  clear gt8
  show Tn _ _ 6 T σ [(0, .ref a), (1, .ref p1), (2, .int (iI p2))] [.int (iI v12)] _
  refine tn_istore_n (L' := [(3, .int (iI v12)), (0, .ref a), (1, .ref p1), (2, .int (iI p2))]) dX6_emptyLoop_6 rfl (by decide) rfl ?_
  refine tn_iload_n dX6_emptyLoop_7 rfl 3 rfl ?_
  refine tn_istore (L' := [(4, .int (iI p2)), (3, .int (iI v12)), (0, .ref a), (1, .ref p1), (2, .int (iI p2))]) dX6_emptyLoop_8 (by decide) rfl ?_
  refine tn_iconst dX6_emptyLoop_10 ?_
  refine tn_istore (L' := [(5, .int (iI 0)), (4, .int (iI p2)), (3, .int (iI v12)), (0, .ref a), (1, .ref p1), (2, .int (iI p2))]) dX6_emptyLoop_11 (by decide) rfl ?_
  refine tn_sub [3, 4, 5, 2, 1, 0] rfl (l_X6_emptyLoop_x_13 (d) (T := T) (σ0 := σ) (a := a) (rx1 := p1) (c2 := p2) (c3 := v12) (x := x) (n := n) (W := W) (xw := xw) (Fq := Fq) (xn := xn) (Rn := (Rn)) (xh := xh) (Rh := (Rh)) (xl := xl) ha h_p1 t_p1 (by omega) (by omega) hw (by omega) (by have z := f10; unfold LJQ at z; omega) (hx) (hn) (hxw) (hFq) (hxn) hRn (hxh) hRh (hxl) hN hne (fun i413 i514 σ15 w18 F19 r20 r21 f22 f23 f24 f25 f26 f27 f28 => ?_) (fun i429 i530 σ31 w34 F35 r36 r37 f38 f39 f40 f41 f42 f43 f44 => ?_) _ (p2) (0) σ hw FrC.rfl (by omega) (by omega) CHX.rfl (by rw [hW]; exact ⟨rfl, rfl⟩) (by rw [hW]; exact hwok) (by omega) (fun _ => rfl) rfl)
  · show Tn _ _ 37 T σ15 [(0, .ref a), (1, .ref p1), (2, .int (iI p2)), (3, .int (iI v12)), (4, .int (iI i413)), (5, .int (iI i514))] [] _
    refine tn_goto (tgt := 57) dX6_emptyLoop_37 (by decide) ?_
    refine tn_iload dX6_emptyLoop_57 4 rfl ?_
    refine tn_iload_n dX6_emptyLoop_59 rfl 2 rfl ?_
    refine tn_isub dX6_emptyLoop_60 ?_
    exact tn_iret rfl dX6_emptyLoop_61 ⟨_, rfl, rfl, w18, (FrC.rfl.trans (FrC.sub F19 (by decide))), by omega, (CHX.rfl.trans (CHX.sub f22 (by simp) (by simp) (by simp))), (MVO.of hlab hk f10 f23 f27 (by omega) (fun e => by have z := f28 e; omega)), f24⟩
  · show Tn _ _ 57 T σ31 [(0, .ref a), (1, .ref p1), (2, .int (iI p2)), (3, .int (iI v12)), (4, .int (iI i429)), (5, .int (iI i530))] [] _
    refine tn_iload dX6_emptyLoop_57 4 rfl ?_
    refine tn_iload_n dX6_emptyLoop_59 rfl 2 rfl ?_
    refine tn_isub dX6_emptyLoop_60 ?_
    exact tn_iret rfl dX6_emptyLoop_61 ⟨_, rfl, rfl, w34, (FrC.rfl.trans (FrC.sub F35 (by decide))), by omega, (CHX.rfl.trans (CHX.sub f38 (by simp) (by simp) (by simp))), (MVO.of hlab hk f10 f39 f43 (by omega) (fun e => by have z := f44 e; omega)), f40⟩
end
section
set_option maxHeartbeats 1000000 in
set_option maxRecDepth 20000 in
theorem l_X6_move_x_9 (d : Nat) {T : CT} {σ0 : MS} {a : Nat} {rx1 : Nat} {x : Nat} {n : Int} {W : Int → It} {xw : Nat} {Fq : Int} {xn : Nat} {Rn : Int → Int} {xh : Nat} {Rh : Int → Int} {xl : Nat} {post : Option Value → CT → MS → Prop} (h_a : OB T a 6) (h_rx1 : OB T rx1 1) (t_rx1 : (T rx1).1 = 50) (hw0 : WT T σ0) (hx : σ0.2.1 5 rx1 = (x : Int)) (hn : σ0.2.1 6 rx1 = n) (hxw : σ0.2.1 54 a = (xw : Int)) (hFq : σ0.2.1 10 rx1 = Fq) (hxn : σ0.2.1 14 rx1 = (xn : Int)) (hRn : σ0.2.1 (1000 + xn) = Rn) (hxh : σ0.2.1 15 rx1 = (xh : Int)) (hRh : σ0.2.1 (1000 + xh) = Rh) (hxl : σ0.2.1 16 rx1 = (xl : Int)) (hN : n ≤ 200) (hne : x ≠ xl ∧ x ≠ xn ∧ x ≠ xh ∧ xl ≠ xn ∧ xl ≠ xh) (hx_39 : ∀ (i2 : Int) (i3 : Int) (σ : MS) , (WT T σ) → (FrC T [] σ0 σ) → (0 ≤ i2 ∧ i2 ≤ 100000) → (-1 ≤ i3 ∧ i3 ≤ 200) → (CHX [] [x, xl] [xw] σ0 σ) → (True) → (WOK (cW σ x n) n) → (i3 < n ∧ -1 ≤ i3 ∧ 0 ≤ i2 ∧ i2 ≤ 200 * (n - 1 - i3)) → (MVA (hmC Fq Rn Rh) n n.toNat (vW W) (vW (cW σ x n)) i2) → Tn (d + 7) m_X6_move 39 T σ [(0, .ref a), (1, .ref rx1), (2, .int (iI i2)), (3, .int (iI i3))] [] post) : ∀ (nq9 : Nat) (i2 : Int) (i3 : Int) (σ : MS) , (WT T σ) → (FrC T [] σ0 σ) → (0 ≤ i2 ∧ i2 ≤ 100000) → (-1 ≤ i3 ∧ i3 ≤ 200) → (CHX [] [x, xl] [xw] σ0 σ) → (MVA (hmC Fq Rn Rh) n (n - 1 - i3).toNat (vW W) (vW (cW σ x n)) i2) → (WOK (cW σ x n) n) → (i3 < n ∧ -1 ≤ i3 ∧ 0 ≤ i2 ∧ i2 ≤ 200 * (n - 1 - i3)) → (i3 + 20).toNat = nq9 → Tn (d + 7) m_X6_move 9 T σ [(0, .ref a), (1, .ref rx1), (2, .int (iI i2)), (3, .int (iI i3))] [] post := by
  intro nq9
  induction nq9 using Nat.strongRecOn with
  | _ nq9 ih =>
    intro i2 i3 σ hw hF r_i2 r_i3 hC hM hwk h3 hm
    refine tn_iload_n dX6_move_9 rfl 3 rfl ?_
    refine tn_if_lt (tgt := 39) dX6_move_10 (by decide) ⟨by omega, by omega⟩ (fun h1 => ?_) (fun h1 => ?_)
    · exact tn_sub [0, 1, 2, 3] rfl (hx_39 (i2) (i3) σ hw (FrC.rfl.trans (FrC.sub hF (by decide))) (by omega) (by omega) hC True.intro hwk (by omega) (by have z := hM; rw [show (n - 1 - i3).toNat = n.toNat by omega] at z; exact z))
    · refine tn_aload_n dX6_move_13 rfl 1 rfl ?_
      refine tn_iload_n dX6_move_14 rfl 3 rfl ?_
      refine tn_iconst dX6_move_15 ?_
      obtain ⟨hl5, hk4a, hk4b⟩ := cel_of (wf_5 hw0 h_rx1) hx
      have hk4 : (T x).1 = 1 := hk4a (by omega)
      clear hk4a hk4b
      have hk4i : IA T x := by unfold IA; omega
      refine tn_callV (M := m_X6_move) (pc := 16) (ix := 34) (ci := 1) (M' := m_X1_get) (As := [.int (iI i3), .int (iI 0)]) (rest := []) dX6_move_16 ok_X1_get im_X1_get se_X1_get ml6_34 np_X1_get rfl rfl h_rx1 rfl (Nat.le_of_ble_eq_true rfl) (Nat.le_of_ble_eq_true rfl) rfl (k_X1_get_x (d + 5) (T := T) (σ := σ) (a := rx1) (k := i3) (c := 0) (x := x) (n := n) (W := cW σ x n) h_rx1 (by omega) (by decide) hw (rc_F hF (Or.inl (by decide)) (by decide) (hx)) (rc_F hF (Or.inl (by decide)) (by decide) (hn)) rfl (by omega) (by omega)) (fun r6 T8 σ7 gt9 hp => ?_)
      obtain ⟨v12, rfl, rfl, rfl, f10, f11⟩ := hp
      clear gt9
      show Tn _ _ 19 T σ [(0, .ref a), (1, .ref rx1), (2, .int (iI i2)), (3, .int (iI i3))] [.int (iI v12)] _
      refine tn_bipush dX6_move_19 (by decide) ?_
      refine tn_icmp_ne (tgt := 33) dX6_move_21 (by decide) ⟨by omega, by omega⟩ ⟨by decide, by decide⟩ (fun h13 => ?_) (fun h13 => ?_)
      · refine tn_iinc (q0 := 3) (L' := [(3, .int (iI (i3 + (-1)))), (0, .ref a), (1, .ref rx1), (2, .int (iI i2))]) dX6_move_33 rfl (by decide) rfl ?_
        refine tn_goto (tgt := 9) dX6_move_36 (by decide) ?_
        exact tn_sub [1, 2, 3, 0] rfl (ih _ (by omega) (i2) (i3 + (-1)) σ hw (FrC.rfl.trans (FrC.sub hF (by decide))) (by omega) (by omega) hC (by have z := hM.s (p := i3) (V2 := vW (cW σ x n)) (d := 0) (by omega) (Or.inl ⟨by rw [vW_0]; omega, rfl, rfl⟩); rw [Int.add_zero, show i3 - 1 = i3 + -1 by omega] at z; exact z) (by exact hwk) (by omega) rfl)
      · refine tn_iload_n dX6_move_24 rfl 2 rfl ?_
        refine tn_aload_n dX6_move_25 rfl 0 rfl ?_
        refine tn_aload_n dX6_move_26 rfl 1 rfl ?_
        refine tn_iload_n dX6_move_27 rfl 3 rfl ?_
        obtain ⟨hk16, hl17⟩ : AR T xw 3 3 3 := ar_of (wf_54 hw0 h_a) hxw
        obtain ⟨hk20, hl21⟩ : AR T xn 11 12 12 := ar_of (wf_14 hw0 h_rx1) hxn
        have hk20i : IA T xn := by unfold IA; omega
        have cv22 : σ.2.1 (1000 + xn) = Rn := (CHX.r hC (by first | (simp; done) | (simp only [List.mem_cons, List.not_mem_nil, or_false, not_or]; omega))).trans (hRn)
        obtain ⟨hk25, hl26⟩ : AR T xh 1 144 144 := ar_of (wf_15 hw0 h_rx1) hxh
        have hk25i : IA T xh := by unfold IA; omega
        have cv27 : σ.2.1 (1000 + xh) = Rh := (CHX.r hC (by first | (simp; done) | (simp only [List.mem_cons, List.not_mem_nil, or_false, not_or]; omega))).trans (hRh)
        obtain ⟨hk30, hl31⟩ : AR T xl 1 13 13 := ar_of (wf_16 hw0 h_rx1) hxl
        have hk30i : IA T xl := by unfold IA; omega
        refine tn_callV (M := m_X6_move) (pc := 28) (ix := 92) (ci := 6) (M' := m_X6_emptyLoop) (As := [.ref rx1, .int (iI i3)]) (rest := [.int (iI i2)]) dX6_move_28 ok_X6_emptyLoop im_X6_emptyLoop se_X6_emptyLoop ml6_92 np_X6_emptyLoop rfl rfl h_a rfl (Nat.le_of_ble_eq_true rfl) (Nat.le_of_ble_eq_true rfl) rfl (k_X6_emptyLoop_x (d) (T := T) (σ := σ) (a := a) (p1 := rx1) (p2 := i3) (x := x) (n := n) (W := cW σ x n) (xw := xw) (Fq := Fq) (xn := xn) (Rn := Rn) (xh := xh) (Rh := Rh) (xl := xl) h_a h_rx1 t_rx1 (by omega) hw (rc_F hF (Or.inl (by decide)) (by decide) (hx)) (rc_F hF (Or.inl (by decide)) (by decide) (hn)) rfl (rc_F hF (Or.inl (by decide)) (by decide) (hxw)) (rc_F hF (Or.inl (by decide)) (by decide) (hFq)) (rc_F hF (Or.inl (by decide)) (by decide) (hxn)) cv22 (rc_F hF (Or.inl (by decide)) (by decide) (hxh)) cv27 (rc_F hF (Or.inl (by decide)) (by decide) (hxl)) (by omega) (by omega) hwk (by omega) (by omega)) (fun r32 T34 σ33 gt35 hp => ?_)
        obtain ⟨v40, rfl, rfl, w41, F42, f36, f37, f38, f39⟩ := hp
        clear gt35
        show Tn _ _ 31 T σ33 [(0, .ref a), (1, .ref rx1), (2, .int (iI i2)), (3, .int (iI i3))] [.int (iI v40), .int (iI i2)] _
        refine tn_iadd dX6_move_31 ?_
        refine tn_istore_n (L' := [(2, .int (iI (i2 + v40))), (0, .ref a), (1, .ref rx1), (3, .int (iI i3))]) dX6_move_32 rfl (by decide) rfl ?_
        refine tn_iinc (q0 := 3) (L' := [(3, .int (iI (i3 + (-1)))), (2, .int (iI (i2 + v40))), (0, .ref a), (1, .ref rx1)]) dX6_move_33 rfl (by decide) rfl ?_
        refine tn_goto (tgt := 9) dX6_move_36 (by decide) ?_
        exact tn_sub [2, 3, 1, 0] rfl (ih _ (by omega) (i2 + v40) (i3 + (-1)) σ33 w41 ((FrC.rfl.trans (FrC.sub hF (by decide))).trans (FrC.sub F42 (by decide))) (by omega) (by omega) (hC.trans (CHX.sub f37 (by simp) (by simp) (by simp))) (by have z := hM.s (by omega) f38; rw [show i3 - 1 = i3 + -1 by omega] at z; exact z) f39 (by omega) rfl)
set_option maxHeartbeats 1000000 in
set_option maxRecDepth 20000 in
theorem k_X6_move_x (d : Nat) {T : CT} {σ : MS} {a : Nat} {p1 : Nat} {x : Nat} {n : Int} {W : Int → It} {xw : Nat} {Fq : Int} {xn : Nat} {Rn : Int → Int} {xh : Nat} {Rh : Int → Int} {xl : Nat} (ha : OB T a 6) (h_p1 : OB T p1 1) (t_p1 : (T p1).1 = 50) (hw : WT T σ) (hx : σ.2.1 5 p1 = (x : Int)) (hn : σ.2.1 6 p1 = n) (hW : cW σ x n = W) (hxw : σ.2.1 54 a = (xw : Int)) (hFq : σ.2.1 10 p1 = Fq) (hxn : σ.2.1 14 p1 = (xn : Int)) (hRn : σ.2.1 (1000 + xn) = Rn) (hxh : σ.2.1 15 p1 = (xh : Int)) (hRh : σ.2.1 (1000 + xh) = Rh) (hxl : σ.2.1 16 p1 = (xl : Int)) (hN : n ≤ 200) (hne : x ≠ xl ∧ x ≠ xn ∧ x ≠ xh ∧ xl ≠ xn ∧ xl ≠ xh) (hwok : WOK W n) : Tn (d + 7) m_X6_move 0 T σ [(0, .ref a), (1, .ref p1)] [] (fun ro T2 σ2 => ∃ v : Int, ro = some (.int (iI v)) ∧ T = T2 ∧ WT T2 σ2 ∧ FrC T [] σ σ2 ∧ (-2147483648 ≤ v ∧ v ≤ 2147483647) ∧ (CHX [] [x, xl] [xw] σ σ2) ∧ (MVA (hmC Fq Rn Rh) n n.toNat (vW W) (vW (cW σ2 x n)) v) ∧ (WOK (cW σ2 x n) n)) := by
  have h6 := wf_6 hw h_p1
  refine tn_iconst dX6_move_0 ?_
  refine tn_istore_n (L' := [(2, .int (iI 0)), (0, .ref a), (1, .ref p1)]) dX6_move_1 rfl (by decide) rfl ?_
  refine tn_aload_n dX6_move_2 rfl 2 rfl ?_
  refine tn_getI (ci := 1) (i := 1) (n := 6) (t := σ.2.1 6 p1) dX6_move_3 rfl lay_1 (by decide) fl6_22 h_p1 rfl rfl (rfl) ?_
  have g1 : ((0 : Int) ≤ σ.2.1 6 p1 ∧ σ.2.1 6 p1 ≤ 5000) ∧ ((T p1).1 = 50 → σ.2.1 6 p1 ≤ 200) := wf_6 hw h_p1
  have g1x := g1.2
  replace g1 := g1.1
  have g1x := g1x t_p1
  refine tn_iconst dX6_move_6 ?_
  refine tn_isub dX6_move_7 ?_
  refine tn_istore_n (L' := [(3, .int (iI ((σ.2.1 6 p1) - 1))), (2, .int (iI 0)), (0, .ref a), (1, .ref p1)]) dX6_move_8 rfl (by decide) rfl ?_
  refine tn_sub [2, 3, 1, 0] rfl (l_X6_move_x_9 (d) (T := T) (σ0 := σ) (a := a) (rx1 := p1) (x := x) (n := n) (W := W) (xw := xw) (Fq := Fq) (xn := xn) (Rn := (Rn)) (xh := xh) (Rh := (Rh)) (xl := xl) ha h_p1 t_p1 hw (hx) (hn) (hxw) (hFq) (hxn) hRn (hxh) hRh (hxl) hN hne (fun i22 i33 σ4 w7 F8 r9 r10 f11 f12 f13 f14 f15 => ?_) _ (0) ((σ.2.1 6 p1) - 1) σ hw FrC.rfl (by omega) (by omega) CHX.rfl (by rw [hW, show (n - 1 - (σ.2.1 6 p1 - 1)).toNat = 0 by omega]; exact ⟨rfl, rfl⟩) (by rw [hW]; exact hwok) (by omega) rfl)
  show Tn _ _ 39 T σ4 [(0, .ref a), (1, .ref p1), (2, .int (iI i22)), (3, .int (iI i33))] [] _
  refine tn_iload_n dX6_move_39 rfl 2 rfl ?_
  exact tn_iret rfl dX6_move_40 ⟨_, rfl, rfl, w7, (FrC.rfl.trans (FrC.sub F8 (by decide))), by omega, (CHX.rfl.trans (CHX.sub f11 (by simp) (by simp) (by simp))), f15, f13⟩
end
section
def RLQ (W : Int → It) (n l v : Int) : Prop := (v = -1 ∧ ∀ j, 0 ≤ j → j < n → ¬ (W j 0 = 13 ∧ W j 1 = l)) ∨ ((0 ≤ v ∧ v < n) ∧ (W v 0 = 13 ∧ W v 1 = l) ∧ ∀ j, 0 ≤ j → j < v → ¬ (W j 0 = 13 ∧ W j 1 = l))
def NLB (W : Int → It) (l i : Int) : Prop := ∀ j, 0 ≤ j → j < i → ¬ (W j 0 = 13 ∧ W j 1 = l)
def LNK (W : Int → It) (n : Int) : Prop := ∀ k, 0 ≤ k → k < n → (W k 0 = 8 ∨ W k 0 = 9) → RLQ W n (W k 1) (W k 12)
def LKE (W W2 : Int → It) : Prop := ∀ k c, c ≠ 12 → W2 k c = W k c
def LKP (W W2 : Int → It) (n i : Int) : Prop := LKE W W2 ∧ ∀ k, 0 ≤ k → k < n → k < i → (W k 0 = 8 ∨ W k 0 = 9) → RLQ W n (W k 1) (W2 k 12)
section LKS
variable {W W2 W3 : Int → It} {n i k l v t t0 b g : Int}
theorem NLB.step (h : NLB W l i) (q : ¬ (W i 0 = 13 ∧ W i 1 = l)) : NLB W l (i + 1) := fun j a b => by
  by_cases e : j = i
  · rw [e]; exact q
  · exact h j a (by omega)
theorem LKE.vw (h : LKE W W2) : vW W2 = vW W := by
  funext k c
  show nrm (W2 k) c = nrm (W k) c
  unfold nrm
  rw [h k 0 (by decide), h k 11 (by decide)]
  by_cases e : c = 12
  · rw [if_pos e, if_pos e]
  · rw [if_neg e, if_neg e, h k c e]
theorem iOK_c {i j : It} (h : ∀ c, c ≠ 12 → j c = i c) (hi : iOK i) : iOK j := by
  unfold iOK at hi ⊢
  rw [h 0 (by decide), h 1 (by decide), h 3 (by decide), h 4 (by decide), h 5 (by decide), h 6 (by decide), h 7 (by decide), h 9 (by decide), h 11 (by decide)]
  refine ⟨hi.1, hi.2.1, fun c a b => ?_, hi.2.2.2⟩
  rw [h (3 + 2 * c) (by omega), h (4 + 2 * c) (by omega)]
  exact hi.2.2.1 c a b
theorem LKE.wok (h : LKE W W2) (hw : WOK W n) : WOK W2 n := fun k a b => iOK_c (h k) (hw k a b)
theorem LKE.rl (h : LKE W W2) : RLQ W2 n l v ↔ RLQ W n l v := by
  have e : ∀ j, (W2 j 0 = 13 ∧ W2 j 1 = l) ↔ (W j 0 = 13 ∧ W j 1 = l) := fun j => by rw [h j 0 (by decide), h j 1 (by decide)]
  unfold RLQ
  simp only [e]
theorem LKP.nil : LKP W W n 0 := ⟨fun _ _ _ => rfl, fun k a b c => by omega⟩
theorem LKP.no (h : LKP W W2 n i) (q : ¬ (W2 i 0 = 8 ∨ W2 i 0 = 9)) : LKP W W2 n (i + 1) := ⟨h.1, fun k a b c d => by
  by_cases e : k = i
  · subst e; rw [h.1 k 0 (by decide)] at q; exact absurd d q
  · exact h.2 k a b (by omega) d⟩
theorem LKP.yes (h : LKP W W2 n i) (q : RLQ W2 n l v) (hl : l = W2 i 1) (e : W3 = uZ W2 i (uZ (W2 i) 12 v)) : LKP W W3 n (i + 1) := by
  refine ⟨fun k c hc => ?_, fun k a b c d => ?_⟩
  · rw [e]
    by_cases z : k = i
    · rw [z, uZ_eq, uZ_ne hc]; exact h.1 i c hc
    · rw [uZ_ne z]; exact h.1 k c hc
  · rw [e]
    by_cases z : k = i
    · rw [z, uZ_eq, uZ_eq, ← h.1 i 1 (by decide), ← hl]; exact h.1.rl.mp q
    · rw [uZ_ne z]; exact h.2 k a b (by omega) d
theorem LKP.lnk (h : LKP W W2 n i) (hi : n ≤ i) : LNK W2 n := fun k a b c => by
  rw [h.1 k 0 (by decide)] at c
  rw [h.1.rl, h.1 k 1 (by decide)]
  exact h.2 k a b (by omega) c
theorem ed_c (hL : LNK W n) (hU : UNQ (vW W) n) (hk : 0 ≤ k ∧ k < n) (f : FLQ W n k b) (g : TGQ W n k t0) : EDv (vW W) n k t ↔ (b = 1 ∧ t = k + 1) ∨ (0 ≤ t0 ∧ t = t0) := by
  unfold EDv TGv
  rw [vW_0, vW_1]
  unfold FLQ at f
  unfold TGQ at g
  constructor
  · rintro (⟨a, c⟩ | ⟨a, c, d, e, f⟩)
    · exact Or.inl ⟨by omega, c⟩
    · rw [vW_0] at e
      rw [vW_1] at f
      have q := hL k hk.1 hk.2 a
      have e0 : t0 = W k 12 := by omega
      rw [← e0] at q
      rcases q with ⟨q1, q2⟩ | ⟨q1, q2, q3⟩
      · exact absurd ⟨e, f⟩ (q2 t c d)
      · exact Or.inr ⟨q1.1, hU t t0 c d q1.1 q1.2 (by rw [vW_0]; exact e) (by rw [vW_0]; exact q2.1) (by rw [vW_1, vW_1]; omega)⟩
  · rintro (⟨a, c⟩ | ⟨a, c⟩)
    · exact Or.inl ⟨by omega, c⟩
    · have a2 : W k 0 = 8 ∨ W k 0 = 9 := by omega
      have q := hL k hk.1 hk.2 a2
      have e0 : t0 = W k 12 := by omega
      rw [← e0] at q
      rcases q with ⟨q1, q2⟩ | ⟨q1, q2, q3⟩
      · omega
      · rw [c]
        exact Or.inr ⟨a2, q1.1, q1.2, by rw [vW_0]; exact q2.1, by rw [vW_1]; exact q2.2⟩
theorem tg_lt (hL : LNK W n) (hk : 0 ≤ k ∧ k < n) (g : TGQ W n k t0) : t0 < n ∧ -1 ≤ t0 := by
  unfold TGQ at g
  rcases g with ⟨a, b, c⟩ | ⟨a, b⟩
  · rcases hL k hk.1 hk.2 b with q | q
    · omega
    · omega
  · omega
end LKS
def SEQ (S S2 Q Q2 : Int → Int) (n k w w2 : Int) : Prop := (¬ ((0 ≤ k ∧ k < n) ∧ S k = 0) ∧ S2 = S ∧ Q2 = Q ∧ w2 = w) ∨ (((0 ≤ k ∧ k < n) ∧ S k = 0) ∧ S2 = uZ S k 1 ∧ Q2 = uZ Q w k ∧ w2 = w + 1)
def SEJ (V : Int → It) (n s : Int) (B : Int → Prop) (S Q : Int → Int) (w i : Int) (p : Int) : Prop := (∀ k, 0 ≤ k → k < n → S k ≠ 0 → RCG V n s B k) ∧ (∀ k, 0 ≤ k → k < n → S k ≠ 0 → k ≠ p → (∃ j, 0 ≤ j ∧ j < w ∧ Q j = k) ∨ B k ∨ ∀ t, EDv V n k t → t < n → S t ≠ 0) ∧ (∀ j, 0 ≤ j → j < w → (0 ≤ Q j ∧ Q j < n) ∧ S (Q j) ≠ 0) ∧ (0 ≤ w ∧ i + w + cN (fun k => S k = 0) 0 n.toNat ≤ n)
section SES
variable {V : Int → It} {n s w w2 i p k : Int} {B : Int → Prop} {S S2 Q Q2 : Int → Int}
theorem cN_le {P : Int → Prop} {a : Int} {n : Nat} : cN P a n ≤ n := by
  induction n with
  | zero => exact Int.le_refl _
  | succ n ih =>
    show cN P a n + dI (P (a + n)) 1 0 ≤ _
    by_cases q : P (a + n)
    · rw [dI_y q]; omega
    · rw [dI_n q]; omega
theorem cN_c {P P2 : Int → Prop} {a : Int} {n : Nat} (h : ∀ j, a ≤ j → j < a + n → (P j ↔ P2 j)) : cN P a n = cN P2 a n := by
  induction n with
  | zero => rfl
  | succ n ih =>
    show cN P a n + dI (P (a + n)) 1 0 = cN P2 a n + dI (P2 (a + n)) 1 0
    rw [ih (fun j x y => h j x (by omega))]
    have q := h (a + n) (by omega) (by omega)
    by_cases z : P (a + n)
    · rw [dI_y z, dI_y (q.mp z)]
    · rw [dI_n z, dI_n (fun w => z (q.mpr w))]
theorem cN_u {P P2 : Int → Prop} {a k : Int} {n : Nat} (hk : a ≤ k ∧ k < a + n) (hp : P k) (hq : ¬ P2 k) (h : ∀ j, a ≤ j → j < a + n → j ≠ k → (P j ↔ P2 j)) : cN P a n = cN P2 a n + 1 := by
  induction n with
  | zero => omega
  | succ n ih =>
    show cN P a n + dI (P (a + n)) 1 0 = cN P2 a n + dI (P2 (a + n)) 1 0 + 1
    by_cases e : k = a + n
    · rw [← e, dI_y hp, dI_n hq, cN_c (fun j x y => h j x (by omega) (by omega))]
      omega
    · have q := h (a + n) (by omega) (by omega) (fun z => e z.symm)
      rw [ih (by omega) (fun j x y z => h j x (by omega) z)]
      by_cases z : P (a + n)
      · rw [dI_y z, dI_y (q.mp z)]; first | done | omega
      · rw [dI_n z, dI_n (fun w => z (q.mpr w))]; first | done | omega
theorem SEJ.see (h : SEJ V n s B S Q w i p) (q : SEQ S S2 Q Q2 n k w w2) (hr : 0 ≤ k → k < n → RCG V n s B k) (hp : 0 ≤ p ∧ p < n → S p ≠ 0) : SEJ V n s B S2 Q2 w2 i p ∧ (0 ≤ k → k < n → S2 k ≠ 0) ∧ (∀ t, S t ≠ 0 → S2 t ≠ 0) := by
  obtain ⟨h1, h2, h3, h4⟩ := h
  rcases q with ⟨a, b, c, d⟩ | ⟨a, b, c, d⟩
  · subst b c d
    exact ⟨⟨h1, h2, h3, h4⟩, fun x y z => a ⟨⟨x, y⟩, z⟩, fun _ z => z⟩
  · have m : ∀ t, S t ≠ 0 → S2 t ≠ 0 := fun t z => by
      rw [b]
      by_cases e : t = k
      · rw [e, uZ_eq]; first | done | decide
      · rw [uZ_ne e]; exact z
    have kk : S2 k ≠ 0 := by rw [b, uZ_eq]; first | done | decide
    refine ⟨⟨fun t x y z => ?_, fun t x y z e => ?_, fun j x y => ?_, ?_⟩, fun _ _ => kk, m⟩
    · by_cases e : t = k
      · rw [e]; exact hr a.1.1 a.1.2
      · rw [b, uZ_ne e] at z; exact h1 t x y z
    · by_cases f : t = k
      · exact Or.inl ⟨w, h4.1, by omega, by rw [c, uZ_eq, f]⟩
      · rw [b, uZ_ne f] at z
        rcases h2 t x y z e with ⟨j, j0, j1, j2⟩ | u | u
        · exact Or.inl ⟨j, j0, by omega, by rw [c, uZ_ne (by omega)]; exact j2⟩
        · exact Or.inr (Or.inl u)
        · exact Or.inr (Or.inr (fun r o l => m r (u r o l)))
    · by_cases e : j = w
      · rw [c, e, uZ_eq]; exact ⟨a.1, kk⟩
      · rw [c, uZ_ne e]
        have u := h3 j x (by omega)
        exact ⟨u.1, m _ u.2⟩
    · have u := cN_u (P := fun k => S k = 0) (P2 := fun k => S2 k = 0) (a := 0) (k := k) (n := n.toNat) (by omega) a.2 kk (fun j x y z => by show S j = 0 ↔ S2 j = 0; rw [b, uZ_ne z])
      omega
theorem SEJ.pop (h : SEJ V n s B S Q w i p) (hp : p < 0 ∨ n ≤ p ∨ B p ∨ ∀ t, EDv V n p t → t < n → S t ≠ 0) (hw : 0 < w) : SEJ V n s B S Q (w - 1) (i + 1) (Q (w - 1)) ∧ (0 ≤ Q (w - 1) ∧ Q (w - 1) < n) ∧ S (Q (w - 1)) ≠ 0 := by
  obtain ⟨h1, h2, h3, h4⟩ := h
  have u := h3 (w - 1) (by omega) (by omega)
  refine ⟨⟨h1, fun k x y z e => ?_, fun j x y => h3 j x (by omega), by omega⟩, u⟩
  by_cases f : k = p
  · rcases hp with o | o | o | o
    · omega
    · omega
    · exact Or.inr (Or.inl (by rw [f]; exact o))
    · exact Or.inr (Or.inr (by rw [f]; exact o))
  · rcases h2 k x y z f with ⟨j, j0, j1, j2⟩ | o | o
    · refine Or.inl ⟨j, j0, ?_, j2⟩
      by_cases g : j = w - 1
      · rw [g] at j2; exact absurd j2.symm e
      · omega
    · exact Or.inr (Or.inl o)
    · exact Or.inr (Or.inr o)
theorem SEJ.fin (h : SEJ V n s B S Q w i p) (hp : p < 0 ∨ n ≤ p ∨ B p ∨ ∀ t, EDv V n p t → t < n → S t ≠ 0) (hw : w ≤ 0) (hs : 0 ≤ s → s < n → S s ≠ 0) (h0 : 0 ≤ k ∧ k < n) : S k ≠ 0 ↔ RCG V n s B k := by
  obtain ⟨h1, h2, h3, h4⟩ := h
  refine ⟨h1 k h0.1 h0.2, fun q => ?_⟩
  have z := q (fun j => 0 ≤ j → j < n → S j ≠ 0) hs (fun i t a b c d e x y => by
    have si := c a b
    by_cases f : i = p
    · rcases hp with o | o | o | o
      · omega
      · omega
      · exact absurd (by rw [f]; exact o) d
      · exact o t (by rw [← f]; exact e) y
    · rcases h2 i a b si f with ⟨j, j0, j1, j2⟩ | o | o
      · omega
      · exact absurd o d
      · exact o t e y)
  exact z h0.1 h0.2
end SES
end
section
set_option maxHeartbeats 1000000 in
set_option maxRecDepth 20000 in
theorem l_X1_rowOfLabel_x_2 (d : Nat) {T : CT} {σ : MS} {a : Nat} {c1 : Int} {x : Nat} {n : Int} {W : Int → It} {post : Option Value → CT → MS → Prop} (h_a : OB T a 1) (r_c1 : -2147483648 ≤ c1 ∧ c1 ≤ 2147483647) (hw : WT T σ) (hx : σ.2.1 5 a = (x : Int)) (hn : σ.2.1 6 a = n) (hW : cW σ x n = W) (hN : n ≤ 200) (hx_31 : ∀ (i2 : Int) , (0 ≤ i2 ∧ i2 ≤ 200) → (True) → (i2 ≤ n) → (RLQ W n c1 i2) → (i2 < 200) → Tn (d + 2) m_X1_rowOfLabel 31 T σ [(0, .ref a), (1, .int (iI c1)), (2, .int (iI i2))] [] post) (hx_39 : ∀ (i2 : Int) , (0 ≤ i2 ∧ i2 ≤ 200) → (True) → (i2 ≤ n) → (RLQ W n c1 (-1)) → Tn (d + 2) m_X1_rowOfLabel 39 T σ [(0, .ref a), (1, .int (iI c1)), (2, .int (iI i2))] [] post) : ∀ (nq9 : Nat) (i2 : Int) , (0 ≤ i2 ∧ i2 ≤ 200) → (NLB W c1 i2) → (i2 ≤ n) → (2147483700 - i2).toNat = nq9 → Tn (d + 2) m_X1_rowOfLabel 2 T σ [(0, .ref a), (1, .int (iI c1)), (2, .int (iI i2))] [] post := by
  intro nq9
  induction nq9 using Nat.strongRecOn with
  | _ nq9 ih =>
    intro i2 r_i2 hL_ h2 hm
    refine tn_iload_n dX1_rowOfLabel_2 rfl 2 rfl ?_
    refine tn_aload_n dX1_rowOfLabel_3 rfl 0 rfl ?_
    refine tn_getI (ci := 1) (i := 1) (n := 6) (t := σ.2.1 6 a) dX1_rowOfLabel_4 rfl lay_1 (by decide) fl1_33 h_a rfl rfl (rfl) ?_
    have g1 : ((0 : Int) ≤ σ.2.1 6 a ∧ σ.2.1 6 a ≤ 5000) ∧ ((T a).1 = 50 → σ.2.1 6 a ≤ 200) := wf_6 hw h_a
    have g1x := g1.2
    replace g1 := g1.1
    clear g1x
    refine tn_icmp_ge (tgt := 39) dX1_rowOfLabel_7 (by decide) ⟨by omega, by omega⟩ ⟨by omega, by omega⟩ (fun h2 => ?_) (fun h2 => ?_)
    · exact tn_sub [0, 1, 2] rfl (hx_39 (i2) (by omega) True.intro (by omega) (Or.inl ⟨rfl, fun j a b => hL_ j a (by omega)⟩))
    · refine tn_aload_n dX1_rowOfLabel_10 rfl 0 rfl ?_
      refine tn_iload_n dX1_rowOfLabel_11 rfl 2 rfl ?_
      refine tn_iconst dX1_rowOfLabel_12 ?_
      obtain ⟨hl6, hk5a, hk5b⟩ := cel_of (wf_5 hw h_a) hx
      have hk5i : IA T x := by unfold IA; omega
      have hk5c : CELL T a x := ⟨hk5a, hk5b⟩
      clear hk5a hk5b
      refine tn_callV (M := m_X1_rowOfLabel) (pc := 13) (ix := 86) (ci := 1) (M' := m_X1_get) (As := [.int (iI i2), .int (iI 0)]) (rest := []) dX1_rowOfLabel_13 ok_X1_get im_X1_get se_X1_get ml1_86 np_X1_get rfl rfl h_a rfl (Nat.le_of_ble_eq_true rfl) (Nat.le_of_ble_eq_true rfl) rfl (k_X1_get_x (d) (T := T) (σ := σ) (a := a) (k := i2) (c := 0) (x := x) (n := n) (W := W) h_a (by omega) (by decide) hw (hx) (hn) hW (by omega) (by omega)) (fun r7 T9 σ8 gt10 hp => ?_)
      obtain ⟨v13, rfl, rfl, rfl, f11, f12⟩ := hp
      clear gt10
      show Tn _ _ 16 T σ [(0, .ref a), (1, .int (iI c1)), (2, .int (iI i2))] [.int (iI v13)] _
      refine tn_bipush dX1_rowOfLabel_16 (by decide) ?_
      refine tn_icmp_ne (tgt := 33) dX1_rowOfLabel_18 (by decide) ⟨by omega, by omega⟩ ⟨by decide, by decide⟩ (fun h14 => ?_) (fun h14 => ?_)
      · refine tn_iinc (q0 := 2) (L' := [(2, .int (iI (i2 + 1))), (0, .ref a), (1, .int (iI c1))]) dX1_rowOfLabel_33 rfl (by decide) rfl ?_
        refine tn_goto (tgt := 2) dX1_rowOfLabel_36 (by decide) ?_
        exact tn_sub [1, 2, 0] rfl (ih _ (by omega) (i2 + 1) (by omega) (hL_.step (fun q => by omega)) (by omega) rfl)
      · refine tn_aload_n dX1_rowOfLabel_21 rfl 0 rfl ?_
        refine tn_iload_n dX1_rowOfLabel_22 rfl 2 rfl ?_
        refine tn_iconst dX1_rowOfLabel_23 ?_
        refine tn_callV (M := m_X1_rowOfLabel) (pc := 24) (ix := 86) (ci := 1) (M' := m_X1_get) (As := [.int (iI i2), .int (iI 1)]) (rest := []) dX1_rowOfLabel_24 ok_X1_get im_X1_get se_X1_get ml1_86 np_X1_get rfl rfl h_a rfl (Nat.le_of_ble_eq_true rfl) (Nat.le_of_ble_eq_true rfl) rfl (k_X1_get_x (d) (T := T) (σ := σ) (a := a) (k := i2) (c := 1) (x := x) (n := n) (W := W) h_a (by omega) (by decide) hw (hx) (hn) hW (by omega) (by omega)) (fun r15 T17 σ16 gt18 hp => ?_)
        obtain ⟨v21, rfl, rfl, rfl, f19, f20⟩ := hp
        clear gt18
        show Tn _ _ 27 T σ [(0, .ref a), (1, .int (iI c1)), (2, .int (iI i2))] [.int (iI v21)] _
        refine tn_iload_n dX1_rowOfLabel_27 rfl 1 rfl ?_
        refine tn_icmp_ne (tgt := 33) dX1_rowOfLabel_28 (by decide) ⟨by omega, by omega⟩ ⟨by omega, by omega⟩ (fun h22 => ?_) (fun h22 => ?_)
        · refine tn_iinc (q0 := 2) (L' := [(2, .int (iI (i2 + 1))), (0, .ref a), (1, .int (iI c1))]) dX1_rowOfLabel_33 rfl (by decide) rfl ?_
          refine tn_goto (tgt := 2) dX1_rowOfLabel_36 (by decide) ?_
          exact tn_sub [1, 2, 0] rfl (ih _ (by omega) (i2 + 1) (by omega) (hL_.step (fun q => by omega)) (by omega) rfl)
        · exact tn_sub [0, 1, 2] rfl (hx_31 (i2) (by omega) True.intro (by omega) (Or.inr ⟨⟨by omega, by omega⟩, ⟨by omega, by omega⟩, hL_⟩) (by omega))
set_option maxHeartbeats 1000000 in
set_option maxRecDepth 20000 in
theorem k_X1_rowOfLabel_x (d : Nat) {T : CT} {σ : MS} {a : Nat} {l : Int} {x : Nat} {n : Int} {W : Int → It} (ha : OB T a 1) (h_l : -2147483648 ≤ l ∧ l ≤ 2147483647) (hw : WT T σ) (hx : σ.2.1 5 a = (x : Int)) (hn : σ.2.1 6 a = n) (hW : cW σ x n = W) (hN : n ≤ 200) : Tn (d + 2) m_X1_rowOfLabel 0 T σ [(0, .ref a), (1, .int (iI l))] [] (fun ro T2 σ2 => ∃ v : Int, ro = some (.int (iI v)) ∧ T = T2 ∧ σ = σ2 ∧ (-2147483648 ≤ v ∧ v ≤ 2147483647) ∧ (RLQ W n l v) ∧ (-1 ≤ v ∧ v < 200)) := by
  have h6 := wf_6 hw ha
  refine tn_iconst dX1_rowOfLabel_0 ?_
  refine tn_istore_n (L' := [(2, .int (iI 0)), (0, .ref a), (1, .int (iI l))]) dX1_rowOfLabel_1 rfl (by decide) rfl ?_
  refine tn_sub [1, 2, 0] rfl (l_X1_rowOfLabel_x_2 (d) (T := T) (σ := σ) (a := a) (c1 := l) (x := x) (n := n) (W := (W)) ha (by omega) hw (hx) (hn) hW hN (fun i21 r7 f8 f9 f10 f11 => ?_) (fun i212 r18 f19 f20 f21 => ?_) _ (0) (by omega) (fun j a b => by omega) (by omega) rfl)
  · show Tn _ _ 31 T σ [(0, .ref a), (1, .int (iI l)), (2, .int (iI i21))] [] _
    refine tn_iload_n dX1_rowOfLabel_31 rfl 2 rfl ?_
    exact tn_iret rfl dX1_rowOfLabel_32 ⟨_, rfl, rfl, rfl, by omega, f10, by omega⟩
  · show Tn _ _ 39 T σ [(0, .ref a), (1, .int (iI l)), (2, .int (iI i212))] [] _
    refine tn_iconst dX1_rowOfLabel_39 ?_
    exact tn_iret rfl dX1_rowOfLabel_40 ⟨_, rfl, rfl, rfl, by omega, f21, by decide⟩
end
section
set_option maxHeartbeats 1000000 in
set_option maxRecDepth 20000 in
theorem l_X1_link_x_2 (d : Nat) {T : CT} {σ0 : MS} {a : Nat} {x : Nat} {n : Int} {W : Int → It} {post : Option Value → CT → MS → Prop} (h_a : OB T a 1) (hw0 : WT T σ0) (hx : σ0.2.1 5 a = (x : Int)) (hn : σ0.2.1 6 a = n) (hN : n ≤ 200) (hx_52 : ∀ (i1 : Int) (σ : MS) , (WT T σ) → (FrC T [] σ0 σ) → (0 ≤ i1 ∧ i1 ≤ 200) → (CHX [] [x] [] σ0 σ) → (LKP W (cW σ x n) n i1) → (i1 ≤ n) → (n ≤ i1) → Tn (d + 3) m_X1_link 52 T σ [(0, .ref a), (1, .int (iI i1))] [] post) : ∀ (nq9 : Nat) (i1 : Int) (σ : MS) , (WT T σ) → (FrC T [] σ0 σ) → (0 ≤ i1 ∧ i1 ≤ 200) → (CHX [] [x] [] σ0 σ) → (LKP W (cW σ x n) n i1) → (i1 ≤ n) → (2147483700 - i1).toNat = nq9 → Tn (d + 3) m_X1_link 2 T σ [(0, .ref a), (1, .int (iI i1))] [] post := by
  intro nq9
  induction nq9 using Nat.strongRecOn with
  | _ nq9 ih =>
    intro i1 σ hw hF r_i1 hC hP h1 hm
    refine tn_iload_n dX1_link_2 rfl 1 rfl ?_
    refine tn_aload_n dX1_link_3 rfl 0 rfl ?_
    refine tn_getI (ci := 1) (i := 1) (n := 6) (t := σ0.2.1 6 a) dX1_link_4 rfl lay_1 (by decide) fl1_33 h_a rfl rfl (rc_F hF (Or.inl (by decide)) (by decide) (rfl)) ?_
    have g1 : ((0 : Int) ≤ σ0.2.1 6 a ∧ σ0.2.1 6 a ≤ 5000) ∧ ((T a).1 = 50 → σ0.2.1 6 a ≤ 200) := wf_6 hw0 h_a
    have g1x := g1.2
    replace g1 := g1.1
    clear g1x
    refine tn_icmp_ge (tgt := 52) dX1_link_7 (by decide) ⟨by omega, by omega⟩ ⟨by omega, by omega⟩ (fun h2 => ?_) (fun h2 => ?_)
    · exact tn_sub [0, 1] rfl (hx_52 (i1) σ hw (FrC.rfl.trans (FrC.sub hF (by decide))) (by omega) hC hP (by omega) (by omega))
    · refine tn_aload_n dX1_link_10 rfl 0 rfl ?_
      refine tn_iload_n dX1_link_11 rfl 1 rfl ?_
      refine tn_iconst dX1_link_12 ?_
      obtain ⟨hl6, hk5a, hk5b⟩ := cel_of (wf_5 hw0 h_a) hx
      have hk5i : IA T x := by unfold IA; omega
      have hk5c : CELL T a x := ⟨hk5a, hk5b⟩
      clear hk5a hk5b
      refine tn_callV (M := m_X1_link) (pc := 13) (ix := 86) (ci := 1) (M' := m_X1_get) (As := [.int (iI i1), .int (iI 0)]) (rest := []) dX1_link_13 ok_X1_get im_X1_get se_X1_get ml1_86 np_X1_get rfl rfl h_a rfl (Nat.le_of_ble_eq_true rfl) (Nat.le_of_ble_eq_true rfl) rfl (k_X1_get_x (d + 1) (T := T) (σ := σ) (a := a) (k := i1) (c := 0) (x := x) (n := n) (W := cW σ x n) h_a (by omega) (by decide) hw (rc_F hF (Or.inl (by decide)) (by decide) (hx)) (rc_F hF (Or.inl (by decide)) (by decide) (hn)) rfl (by omega) (by omega)) (fun r7 T9 σ8 gt10 hp => ?_)
      obtain ⟨v13, rfl, rfl, rfl, f11, f12⟩ := hp
      clear gt10
      show Tn _ _ 16 T σ [(0, .ref a), (1, .int (iI i1))] [.int (iI v13)] _
      refine tn_istore_n (L' := [(2, .int (iI v13)), (0, .ref a), (1, .int (iI i1))]) dX1_link_16 rfl (by decide) rfl ?_
      refine tn_iload_n dX1_link_17 rfl 0 rfl ?_
      refine tn_bipush dX1_link_18 (by decide) ?_
      refine tn_icmp_eq (tgt := 29) dX1_link_20 (by decide) ⟨by omega, by omega⟩ ⟨by decide, by decide⟩ (fun h14 => ?_) (fun h14 => ?_)
      · refine tn_aload_n dX1_link_29 rfl 1 rfl ?_
        refine tn_iload_n dX1_link_30 rfl 2 rfl ?_
        refine tn_bipush dX1_link_31 (by decide) ?_
        refine tn_aload_n dX1_link_33 rfl 1 rfl ?_
        refine tn_aload_n dX1_link_34 rfl 1 rfl ?_
        refine tn_iload_n dX1_link_35 rfl 2 rfl ?_
        refine tn_iconst dX1_link_36 ?_
        refine tn_callV (M := m_X1_link) (pc := 37) (ix := 86) (ci := 1) (M' := m_X1_get) (As := [.int (iI i1), .int (iI 1)]) (rest := [.ref a, .int (iI 12), .int (iI i1), .ref a]) dX1_link_37 ok_X1_get im_X1_get se_X1_get ml1_86 np_X1_get rfl rfl h_a rfl (Nat.le_of_ble_eq_true rfl) (Nat.le_of_ble_eq_true rfl) rfl (k_X1_get_x (d + 1) (T := T) (σ := σ) (a := a) (k := i1) (c := 1) (x := x) (n := n) (W := cW σ x n) h_a (by omega) (by decide) hw (rc_F hF (Or.inl (by decide)) (by decide) (hx)) (rc_F hF (Or.inl (by decide)) (by decide) (hn)) rfl (by omega) (by omega)) (fun r15 T17 σ16 gt18 hp => ?_)
        obtain ⟨v21, rfl, rfl, rfl, f19, f20⟩ := hp
        clear gt18
        show Tn _ _ 40 T σ [(2, .int (iI v13)), (0, .ref a), (1, .int (iI i1))] [.int (iI v21), .ref a, .int (iI 12), .int (iI i1), .ref a] _
        refine tn_callV (M := m_X1_link) (pc := 40) (ix := 89) (ci := 1) (M' := m_X1_rowOfLabel) (As := [.int (iI v21)]) (rest := [.int (iI 12), .int (iI i1), .ref a]) dX1_link_40 ok_X1_rowOfLabel im_X1_rowOfLabel se_X1_rowOfLabel ml1_89 np_X1_rowOfLabel rfl rfl h_a rfl (Nat.le_of_ble_eq_true rfl) (Nat.le_of_ble_eq_true rfl) rfl (k_X1_rowOfLabel_x (d) (T := T) (σ := σ) (a := a) (l := v21) (x := x) (n := n) (W := cW σ x n) h_a (by omega) hw (rc_F hF (Or.inl (by decide)) (by decide) (hx)) (rc_F hF (Or.inl (by decide)) (by decide) (hn)) rfl (by omega)) (fun r22 T24 σ23 gt25 hp => ?_)
        obtain ⟨v29, rfl, rfl, rfl, f26, f27, f28⟩ := hp
        clear gt25
        show Tn _ _ 43 T σ [(2, .int (iI v13)), (0, .ref a), (1, .int (iI i1))] [.int (iI v29), .int (iI 12), .int (iI i1), .ref a] _
        refine tn_callV (M := m_X1_link) (pc := 43) (ix := 93) (ci := 1) (M' := m_X1_set) (As := [.int (iI i1), .int (iI 12), .int (iI v29)]) (rest := []) dX1_link_43 ok_X1_set im_X1_set se_X1_set ml1_93 np_X1_set rfl rfl h_a rfl (Nat.le_of_ble_eq_true rfl) (Nat.le_of_ble_eq_true rfl) rfl (k_X1_set_x (d + 1) (T := T) (σ := σ) (a := a) (k := i1) (c := 12) (y := v29) (x := x) (n := n) (W := cW σ x n) h_a (by omega) (by decide) (by omega) hw (rc_F hF (Or.inl (by decide)) (by decide) (hx)) (rc_F hF (Or.inl (by decide)) (by decide) (hn)) rfl (by omega) (by omega) (by omega) (by omega)) (fun r30 T32 σ31 gt33 hp => ?_)
        obtain ⟨rfl, rfl, w37, F38, f34, f35⟩ := hp
        clear gt33
        show Tn _ _ 46 T σ31 [(2, .int (iI v13)), (0, .ref a), (1, .int (iI i1))] [] _
        refine tn_iinc (q0 := 2) (L' := [(1, .int (iI (i1 + 1))), (2, .int (iI v13)), (0, .ref a)]) dX1_link_46 rfl (by decide) rfl ?_
        refine tn_goto (tgt := 2) dX1_link_49 (by decide) ?_
        exact tn_sub [2, 0] rfl (ih _ (by omega) (i1 + 1) σ31 w37 ((FrC.rfl.trans (FrC.sub hF (by decide))).trans (FrC.sub F38 (by decide))) (by omega) (hC.trans (CHX.sub f34 (by simp) (by simp) (by simp))) (hP.yes f27 f20 f35) (by omega) rfl)
      · refine tn_iload_n dX1_link_23 rfl 0 rfl ?_
        refine tn_bipush dX1_link_24 (by decide) ?_
        refine tn_icmp_ne (tgt := 46) dX1_link_26 (by decide) ⟨by omega, by omega⟩ ⟨by decide, by decide⟩ (fun h39 => ?_) (fun h39 => ?_)
        · refine tn_iinc (q0 := 2) (L' := [(1, .int (iI (i1 + 1))), (2, .int (iI v13)), (0, .ref a)]) dX1_link_46 rfl (by decide) rfl ?_
          refine tn_goto (tgt := 2) dX1_link_49 (by decide) ?_
          exact tn_sub [2, 0] rfl (ih _ (by omega) (i1 + 1) σ hw (FrC.rfl.trans (FrC.sub hF (by decide))) (by omega) hC (hP.no (by omega)) (by omega) rfl)
        · refine tn_aload_n dX1_link_29 rfl 1 rfl ?_
          refine tn_iload_n dX1_link_30 rfl 2 rfl ?_
          refine tn_bipush dX1_link_31 (by decide) ?_
          refine tn_aload_n dX1_link_33 rfl 1 rfl ?_
          refine tn_aload_n dX1_link_34 rfl 1 rfl ?_
          refine tn_iload_n dX1_link_35 rfl 2 rfl ?_
          refine tn_iconst dX1_link_36 ?_
          refine tn_callV (M := m_X1_link) (pc := 37) (ix := 86) (ci := 1) (M' := m_X1_get) (As := [.int (iI i1), .int (iI 1)]) (rest := [.ref a, .int (iI 12), .int (iI i1), .ref a]) dX1_link_37 ok_X1_get im_X1_get se_X1_get ml1_86 np_X1_get rfl rfl h_a rfl (Nat.le_of_ble_eq_true rfl) (Nat.le_of_ble_eq_true rfl) rfl (k_X1_get_x (d + 1) (T := T) (σ := σ) (a := a) (k := i1) (c := 1) (x := x) (n := n) (W := cW σ x n) h_a (by omega) (by decide) hw (rc_F hF (Or.inl (by decide)) (by decide) (hx)) (rc_F hF (Or.inl (by decide)) (by decide) (hn)) rfl (by omega) (by omega)) (fun r40 T42 σ41 gt43 hp => ?_)
          obtain ⟨v46, rfl, rfl, rfl, f44, f45⟩ := hp
          clear gt43
          show Tn _ _ 40 T σ [(2, .int (iI v13)), (0, .ref a), (1, .int (iI i1))] [.int (iI v46), .ref a, .int (iI 12), .int (iI i1), .ref a] _
          refine tn_callV (M := m_X1_link) (pc := 40) (ix := 89) (ci := 1) (M' := m_X1_rowOfLabel) (As := [.int (iI v46)]) (rest := [.int (iI 12), .int (iI i1), .ref a]) dX1_link_40 ok_X1_rowOfLabel im_X1_rowOfLabel se_X1_rowOfLabel ml1_89 np_X1_rowOfLabel rfl rfl h_a rfl (Nat.le_of_ble_eq_true rfl) (Nat.le_of_ble_eq_true rfl) rfl (k_X1_rowOfLabel_x (d) (T := T) (σ := σ) (a := a) (l := v46) (x := x) (n := n) (W := cW σ x n) h_a (by omega) hw (rc_F hF (Or.inl (by decide)) (by decide) (hx)) (rc_F hF (Or.inl (by decide)) (by decide) (hn)) rfl (by omega)) (fun r47 T49 σ48 gt50 hp => ?_)
          obtain ⟨v54, rfl, rfl, rfl, f51, f52, f53⟩ := hp
          clear gt50
          show Tn _ _ 43 T σ [(2, .int (iI v13)), (0, .ref a), (1, .int (iI i1))] [.int (iI v54), .int (iI 12), .int (iI i1), .ref a] _
          refine tn_callV (M := m_X1_link) (pc := 43) (ix := 93) (ci := 1) (M' := m_X1_set) (As := [.int (iI i1), .int (iI 12), .int (iI v54)]) (rest := []) dX1_link_43 ok_X1_set im_X1_set se_X1_set ml1_93 np_X1_set rfl rfl h_a rfl (Nat.le_of_ble_eq_true rfl) (Nat.le_of_ble_eq_true rfl) rfl (k_X1_set_x (d + 1) (T := T) (σ := σ) (a := a) (k := i1) (c := 12) (y := v54) (x := x) (n := n) (W := cW σ x n) h_a (by omega) (by decide) (by omega) hw (rc_F hF (Or.inl (by decide)) (by decide) (hx)) (rc_F hF (Or.inl (by decide)) (by decide) (hn)) rfl (by omega) (by omega) (by omega) (by omega)) (fun r55 T57 σ56 gt58 hp => ?_)
          obtain ⟨rfl, rfl, w62, F63, f59, f60⟩ := hp
          clear gt58
          show Tn _ _ 46 T σ56 [(2, .int (iI v13)), (0, .ref a), (1, .int (iI i1))] [] _
          refine tn_iinc (q0 := 2) (L' := [(1, .int (iI (i1 + 1))), (2, .int (iI v13)), (0, .ref a)]) dX1_link_46 rfl (by decide) rfl ?_
          refine tn_goto (tgt := 2) dX1_link_49 (by decide) ?_
          exact tn_sub [2, 0] rfl (ih _ (by omega) (i1 + 1) σ56 w62 ((FrC.rfl.trans (FrC.sub hF (by decide))).trans (FrC.sub F63 (by decide))) (by omega) (hC.trans (CHX.sub f59 (by simp) (by simp) (by simp))) (hP.yes f52 f45 f60) (by omega) rfl)
set_option maxHeartbeats 1000000 in
set_option maxRecDepth 20000 in
theorem k_X1_link_x (d : Nat) {T : CT} {σ : MS} {a : Nat} {x : Nat} {n : Int} {W : Int → It} (ha : OB T a 1) (hw : WT T σ) (hx : σ.2.1 5 a = (x : Int)) (hn : σ.2.1 6 a = n) (hW : cW σ x n = W) (hN : n ≤ 200) : Tn (d + 3) m_X1_link 0 T σ [(0, .ref a)] [] (fun ro T2 σ2 => ro = none ∧ T = T2 ∧ WT T2 σ2 ∧ FrC T [] σ σ2 ∧ (CHX [] [x] [] σ σ2) ∧ (LKE W (cW σ2 x n)) ∧ (LNK (cW σ2 x n) n)) := by
  have h6 := wf_6 hw ha
  refine tn_iconst dX1_link_0 ?_
  refine tn_istore_n (L' := [(1, .int (iI 0)), (0, .ref a)]) dX1_link_1 rfl (by decide) rfl ?_
  refine tn_sub [1, 0] rfl (l_X1_link_x_2 (d) (T := T) (σ0 := σ) (a := a) (x := x) (n := n) (W := W) ha hw (hx) (hn) hN (fun i11 σ2 w5 F6 r7 f8 f9 f10 f11 => ?_) _ (0) σ hw FrC.rfl (by omega) CHX.rfl (by rw [hW]; exact LKP.nil) (by omega) rfl)
  show Tn _ _ 52 T σ2 [(0, .ref a), (1, .int (iI i11))] [] _
  exact tn_vret rfl dX1_link_52 ⟨rfl, rfl, w5, (FrC.rfl.trans (FrC.sub F6 (by decide))), (CHX.rfl.trans (CHX.sub f8 (by simp) (by simp) (by simp))), f9.1, f9.lnk (by omega)⟩
end
section
set_option maxHeartbeats 1000000 in
set_option maxRecDepth 20000 in
theorem k_X3_isSeen_x (d : Nat) {T : CT} {σ : MS} {a : Nat} {k : Int} {xs : Nat} {Sv : Int → Int} (ha : OB T a 3) (h_k : -2147483648 ≤ k ∧ k ≤ 2147483647) (hw : WT T σ) (hxs : σ.2.1 20 a = (xs : Int)) (hSv : σ.2.1 (1000 + xs) = Sv) : Tn (d + 2) m_X3_isSeen 0 T σ [(0, .ref a), (1, .int (iI k))] [] (fun ro T2 σ2 => ∃ v : Int, ro = some (.int (iI v)) ∧ T = T2 ∧ σ = σ2 ∧ (v = 0 ∨ v = 1) ∧ ((v = 1 ∧ (0 ≤ k ∧ k < 201) ∧ Sv k ≠ 0) ∨ (v = 0 ∧ ¬ ((0 ≤ k ∧ k < 201) ∧ Sv k ≠ 0)))) := by
  refine tn_aload_n dX3_isSeen_0 rfl 0 rfl ?_
  obtain ⟨hk3, hl4⟩ : AR T xs 1 201 201 := ar_of (wf_20 hw ha) hxs
  have hk3i : IA T xs := by unfold IA; omega
  refine tn_getR (ci := 3) (i := 2) (n := 20) (x := xs) dX3_isSeen_1 rfl lay_3 (by decide) fl3_18 ha rfl rfl (hxs) ?_
  refine tn_iload_n dX3_isSeen_4 rfl 1 rfl ?_
  refine tn_callSN (M := m_X3_isSeen) (pc := 5) (ix := 84) (M' := m_X11_at) (As := [.ref xs, .int (iI k)]) (rest := []) dX3_isSeen_5 ok_X11_at stt_X11_at nl3_84 np_X11_at rfl (Nat.le_of_ble_eq_true rfl) (Nat.le_of_ble_eq_true rfl) rfl (k_X11_at_x (d) (T := T) (σ := σ) (x := xs) (i := k) (R := Sv) hk3i (by omega) (by omega) hw hSv) (fun r5 T7 σ6 gt8 hp => ?_)
  obtain ⟨v12, rfl, rfl, rfl, f9, f10, f11⟩ := hp
  clear gt8
  clear f10
  have f11u := f11
  unfold ATQ at f11u
  show Tn _ _ 8 T σ [(0, .ref a), (1, .int (iI k))] [.int (iI v12)] _
  refine tn_if_eq (tgt := 15) dX3_isSeen_8 (by decide) ⟨by omega, by omega⟩ (fun h13 => ?_) (fun h13 => ?_)
  · refine tn_iconst dX3_isSeen_15 ?_
    exact tn_zret (v := 0) rfl (by decide) dX3_isSeen_16 ⟨_, rfl, rfl, rfl, by omega, by omega⟩
  · refine tn_iconst dX3_isSeen_11 ?_
    refine tn_goto (tgt := 16) dX3_isSeen_12 (by decide) ?_
    exact tn_zret (v := 1) rfl (by decide) dX3_isSeen_16 ⟨_, rfl, rfl, rfl, by omega, by omega⟩
end
section
set_option maxHeartbeats 1000000 in
set_option maxRecDepth 20000 in
theorem k_X3_see_x (d : Nat) {T : CT} {σ : MS} {a : Nat} {p1 : Nat} {p2 : Int} {x : Nat} {n : Int} {W : Int → It} {xs : Nat} {Sv : Int → Int} {xt : Nat} {Qv : Int → Int} {wq : Int} (ha : OB T a 3) (h_p1 : OB T p1 1) (h_p2 : -2147483648 ≤ p2 ∧ p2 ≤ 2147483647) (hw : WT T σ) (hx : σ.2.1 5 p1 = (x : Int)) (hn : σ.2.1 6 p1 = n) (hW : cW σ x n = W) (hxs : σ.2.1 20 a = (xs : Int)) (hSv : σ.2.1 (1000 + xs) = Sv) (hxt : σ.2.1 21 a = (xt : Int)) (hQv : σ.2.1 (1000 + xt) = Qv) (hwq : σ.2.1 22 a = wq) (hN : n ≤ 200) (hne : xs ≠ xt) (hwq9 : 0 ≤ wq ∧ wq ≤ 200) : Tn (d + 3) m_X3_see 0 T σ [(0, .ref a), (1, .ref p1), (2, .int (iI p2))] [] (fun ro T2 σ2 => ro = none ∧ T = T2 ∧ WT T2 σ2 ∧ FrC T [22] σ σ2 ∧ (CHX [(22, a)] [xs, xt] [] σ σ2) ∧ (SEQ Sv (σ2.2.1 (1000 + xs)) Qv (σ2.2.1 (1000 + xt)) n p2 wq (σ2.2.1 22 a)) ∧ (wq ≤ σ2.2.1 22 a ∧ σ2.2.1 22 a ≤ wq + 1)) := by
  refine tn_iload_n dX3_see_0 rfl 2 rfl ?_
  refine tn_if_lt (tgt := 51) dX3_see_1 (by decide) ⟨by omega, by omega⟩ (fun h1 => ?_) (fun h1 => ?_)
  · exact tn_vret rfl dX3_see_51 ⟨rfl, rfl, hw, FrC.rfl, CHX.rfl, (Or.inl ⟨by omega, hSv, hQv, hwq⟩), by omega⟩
  · refine tn_iload_n dX3_see_4 rfl 2 rfl ?_
    refine tn_aload_n dX3_see_5 rfl 1 rfl ?_
    refine tn_getI (ci := 1) (i := 1) (n := 6) (t := σ.2.1 6 p1) dX3_see_6 rfl lay_1 (by decide) fl3_29 h_p1 rfl rfl (rfl) ?_
    have g2 : ((0 : Int) ≤ σ.2.1 6 p1 ∧ σ.2.1 6 p1 ≤ 5000) ∧ ((T p1).1 = 50 → σ.2.1 6 p1 ≤ 200) := wf_6 hw h_p1
    have g2x := g2.2
    replace g2 := g2.1
    clear g2x
    refine tn_icmp_ge (tgt := 51) dX3_see_9 (by decide) ⟨by omega, by omega⟩ ⟨by omega, by omega⟩ (fun h3 => ?_) (fun h3 => ?_)
    · exact tn_vret rfl dX3_see_51 ⟨rfl, rfl, hw, FrC.rfl, CHX.rfl, (Or.inl ⟨by omega, hSv, hQv, hwq⟩), by omega⟩
    · refine tn_aload_n dX3_see_12 rfl 0 rfl ?_
      refine tn_iload_n dX3_see_13 rfl 2 rfl ?_
      obtain ⟨hk6, hl7⟩ : AR T xs 1 201 201 := ar_of (wf_20 hw ha) hxs
      have hk6i : IA T xs := by unfold IA; omega
      refine tn_callV (M := m_X3_see) (pc := 14) (ix := 100) (ci := 3) (M' := m_X3_isSeen) (As := [.int (iI p2)]) (rest := []) dX3_see_14 ok_X3_isSeen im_X3_isSeen se_X3_isSeen ml3_100 np_X3_isSeen rfl rfl ha rfl (Nat.le_of_ble_eq_true rfl) (Nat.le_of_ble_eq_true rfl) rfl (k_X3_isSeen_x (d) (T := T) (σ := σ) (a := a) (k := p2) (xs := xs) (Sv := Sv) ha (by omega) hw (hxs) hSv) (fun r8 T10 σ9 gt11 hp => ?_)
      obtain ⟨v14, rfl, rfl, rfl, f12, f13⟩ := hp
      clear gt11
      show Tn _ _ 17 T σ [(0, .ref a), (1, .ref p1), (2, .int (iI p2))] [.int (iI v14)] _
      refine tn_if_ne (tgt := 51) dX3_see_17 (by decide) ⟨by omega, by omega⟩ (fun h15 => ?_) (fun h15 => ?_)
      · exact tn_vret rfl dX3_see_51 ⟨rfl, rfl, hw, FrC.rfl, CHX.rfl, (Or.inl ⟨by omega, hSv, hQv, hwq⟩), by omega⟩
      · refine tn_aload_n dX3_see_20 rfl 0 rfl ?_
        refine tn_getR (ci := 3) (i := 2) (n := 20) (x := xs) dX3_see_21 rfl lay_3 (by decide) fl3_18 ha rfl rfl (hxs) ?_
        refine tn_iload_n dX3_see_24 rfl 2 rfl ?_
        refine tn_iconst dX3_see_25 ?_
        refine tn_callSN (M := m_X3_see) (pc := 26) (ix := 103) (M' := m_X11_put) (As := [.ref xs, .int (iI p2), .int (iI 1)]) (rest := []) dX3_see_26 ok_X11_put stt_X11_put nl3_103 np_X11_put rfl (Nat.le_of_ble_eq_true rfl) (Nat.le_of_ble_eq_true rfl) rfl (k_X11_put_x (d + 1) (T := T) (σ := σ) (x := xs) (i := p2) (y := 1) hk6i (by omega) (by omega) (by decide) hw (nh_k hk6 (by unfold HT; omega)) (vok_1 (by have q9 := hk6; omega) (by omega))) (fun r16 T18 σ17 gt19 hp => ?_)
        obtain ⟨rfl, rfl, w23, F24, f20, f21⟩ := hp
        clear gt19
        show Tn _ _ 29 T σ17 [(0, .ref a), (1, .ref p1), (2, .int (iI p2))] [] _
        have cv25 : σ17.2.1 (1000 + xt) = Qv := (CHX.r f20 (by first | (simp; done) | (simp only [List.mem_cons, List.not_mem_nil, or_false, not_or]; omega))).trans (hQv)
        refine tn_aload_n dX3_see_29 rfl 0 rfl ?_
        obtain ⟨hk28, hl29⟩ : AR T xt 1 201 201 := ar_of (wf_21 hw ha) hxt
        have hk28i : IA T xt := by unfold IA; omega
        refine tn_getR (ci := 3) (i := 3) (n := 21) (x := xt) dX3_see_30 rfl lay_3 (by decide) fl3_22 ha rfl rfl (rc_F F24 (Or.inl (by decide)) (by decide) (hxt)) ?_
        refine tn_aload_n dX3_see_33 rfl 0 rfl ?_
        refine tn_getI (ci := 3) (i := 4) (n := 22) (t := σ.2.1 22 a) dX3_see_34 rfl lay_3 (by decide) fl3_94 ha rfl rfl (rc_F F24 (Or.inl (by decide)) (by decide) (rfl)) ?_
        have g30 : ((-2147483648 : Int) ≤ σ.2.1 22 a ∧ σ.2.1 22 a ≤ 2147483647) := wf_22 hw ha
        refine tn_iload_n dX3_see_37 rfl 2 rfl ?_
        refine tn_callSN (M := m_X3_see) (pc := 38) (ix := 103) (M' := m_X11_put) (As := [.ref xt, .int (iI (σ.2.1 22 a)), .int (iI p2)]) (rest := []) dX3_see_38 ok_X11_put stt_X11_put nl3_103 np_X11_put rfl (Nat.le_of_ble_eq_true rfl) (Nat.le_of_ble_eq_true rfl) rfl (k_X11_put_x (d + 1) (T := T) (σ := σ17) (x := xt) (i := σ.2.1 22 a) (y := p2) hk28i (by omega) (by omega) (by omega) w23 (nh_k hk28 (by unfold HT; omega)) (vok_1 (by have q9 := hk28; omega) (by omega))) (fun r31 T33 σ32 gt34 hp => ?_)
        obtain ⟨rfl, rfl, w38, F39, f35, f36⟩ := hp
        clear gt34
        show Tn _ _ 41 T σ32 [(0, .ref a), (1, .ref p1), (2, .int (iI p2))] [] _
        refine tn_aload_n dX3_see_41 rfl 0 rfl ?_
        refine tn_dup dX3_see_42 rfl ?_
        refine tn_getI (ci := 3) (i := 4) (n := 22) (t := σ.2.1 22 a) dX3_see_43 rfl lay_3 (by decide) fl3_94 ha rfl rfl (rc_F F39 (Or.inl (by decide)) (by decide) (rc_F F24 (Or.inl (by decide)) (by decide) (rfl))) ?_
        refine tn_iconst dX3_see_46 ?_
        refine tn_iadd dX3_see_47 ?_
        refine tn_putV (ci := 3) (i := 4) (n := 22) (r := false) (v := (σ.2.1 22 a) + 1) tyX3 tyX3_ok nmX3 dX3_see_48 rfl lay_3 (by decide) fl3_94 rfl (tyX3_ok 4 (by decide)) rfl rfl rfl ha rfl rfl ?_
        have cv40 : (sA 22 a ((σ.2.1 22 a) + 1) σ32).2.1 (1000 + xs) = σ17.2.1 (1000 + xs) := (rv_fld (by decide)).trans ((CHX.r f35 (by first | (simp; done) | (simp only [List.mem_cons, List.not_mem_nil, or_false, not_or]; omega))).trans (rfl))
        have cv41 : (sA 22 a ((σ.2.1 22 a) + 1) σ32).2.1 (1000 + xt) = σ32.2.1 (1000 + xt) := (rv_fld (by decide)).trans (rfl)
        exact tn_vret rfl dX3_see_51 ⟨rfl, rfl, (w38.put (by decide) (by decide) (fo_22 (by omega))), (((FrC.rfl.trans (FrC.sub F24 (by decide))).trans (FrC.sub F39 (by decide))).put (by decide) (by decide)), (((CHX.rfl.trans (CHX.sub f20 (by simp) (by simp) (by simp))).trans (CHX.sub f35 (by simp) (by simp) (by simp))).fld (by simp) (by decide)), (Or.inr ⟨⟨⟨by omega, by omega⟩, by omega⟩, (by rw [cv40]; rw [ptf_row f21 ⟨by omega, by omega⟩, hSv]), (by rw [cv41]; rw [ptf_row f36 ⟨by omega, by omega⟩, cv25, hwq]), by rw [show (sA 22 a ((σ.2.1 22 a) + 1) σ32).2.1 22 a = (σ.2.1 22 a) + 1 from ra_eq]; omega⟩), by rw [show (sA 22 a ((σ.2.1 22 a) + 1) σ32).2.1 22 a = (σ.2.1 22 a) + 1 from ra_eq]; omega⟩
end
