set_option maxHeartbeats 1000000 in
set_option maxRecDepth 20000 in
theorem k_X11_stack_j (d : Nat) {T : CT} {σ : MS} {a : Nat} {k : Int} {w : Int} {rn : Nat} {xa : Nat} {xc : Nat} {xd : Nat} {y : Nat} (ha : OB T a 11) (h_k : -2147483648 ≤ k ∧ k ≤ 2147483647) (h_w : -2147483648 ≤ w ∧ w ≤ 2147483647) (hw : WT T σ) (hrn : σ.2.1 103 a = (rn : Int)) (hxa : σ.2.1 59 rn = (xa : Int)) (hxc : σ.2.1 61 rn = (xc : Int)) (hxd : σ.2.1 62 rn = (xd : Int)) (hy : σ.2.1 55 rn = (y : Int)) : Tn (d + 5) m_X11_stack 0 T σ [(0, .ref a), (1, .int (iI k)), (2, .int (iI w))] [] (fun ro T2 σ2 => ∃ v : Int, ro = some (.int (iI v)) ∧ T = T2 ∧ WT T2 σ2 ∧ FrC T [70, 71] σ σ2 ∧ (-2147483648 ≤ v ∧ v ≤ 2147483647) ∧ (CHX [(70, rn), (71, rn)] [] [] σ σ2) ∧ (JSK T σ rn xa xc xd y k w v σ2)) := by
  refine tn_iload_n dX11_stack_0 rfl 2 rfl ?_
  refine tn_if_lt (tgt := 20) dX11_stack_1 (by decide) ⟨by omega, by omega⟩ (fun h1 => ?_) (fun h1 => ?_)
  · refine tn_iconst dX11_stack_20 ?_
    exact tn_iret rfl dX11_stack_21 ⟨_, rfl, rfl, hw, FrC.rfl, by omega, CHX.rfl, Or.inl ⟨by omega, rfl⟩⟩
  · refine tn_iload_n dX11_stack_4 rfl 2 rfl ?_
    refine tn_iconst dX11_stack_5 ?_
    refine tn_icmp_gt (tgt := 20) dX11_stack_6 (by decide) ⟨by omega, by omega⟩ ⟨by decide, by decide⟩ (fun h2 => ?_) (fun h2 => ?_)
    · refine tn_iconst dX11_stack_20 ?_
      exact tn_iret rfl dX11_stack_21 ⟨_, rfl, rfl, hw, FrC.rfl, by omega, CHX.rfl, Or.inl ⟨by omega, rfl⟩⟩
    · refine tn_aload_n dX11_stack_9 rfl 0 rfl ?_
      have hk5 : (T rn).1 = 37 := ob_of (wf_103 hw ha) hrn
      have hk5o : OB T rn 7 := ⟨by omega, by rw [hk5]; rfl, by omega⟩
      refine tn_getR (ci := 11) (i := 8) (n := 103) (x := rn) dX11_stack_10 rfl lay_11 (by decide) fl11_83 ha rfl rfl (hrn) ?_
      refine tn_iload_n dX11_stack_13 rfl 1 rfl ?_
      obtain ⟨hk9, hl10⟩ : AR T xa 15 9 9 := ar_of (wf_59 hw hk5o) hxa
      have hk9i : IA T xa := by unfold IA; omega
      obtain ⟨hl14, hk13a, hk13b⟩ := ex_at (wf_61 hw hk5o) hxc
      have hk13 : (T xc).1 = 1 := hk13b (by omega)
      clear hk13a hk13b
      have hk13i : IA T xc := by unfold IA; omega
      obtain ⟨hl18, hk17a, hk17b⟩ := ex_at (wf_55 hw hk5o) hy
      have hk17i : (T y).1 = 4 ∨ (T y).1 = 5 := by omega
      have hk17c : RROW T rn y := ⟨hk17a, hk17b⟩
      clear hk17a hk17b
      refine tn_callV (M := m_X11_stack) (pc := 14) (ix := 214) (ci := 7) (M' := m_X7_find) (As := [.int (iI k)]) (rest := []) dX11_stack_14 ok_X7_find im_X7_find se_X7_find ml11_214 np_X7_find rfl rfl hk5o rfl (Nat.le_of_ble_eq_true rfl) (Nat.le_of_ble_eq_true rfl) rfl (k_X7_find_j (d) (T := T) (σ := σ) (a := rn) (k := k) (xa := xa) (xc := xc) (y := y) hk5o (by omega) hw (hxa) (hxc) (hy)) (fun r19 T21 σ20 gt22 hp => ?_)
      obtain ⟨v27, rfl, rfl, w28, F29, f23, f24, f25, f26⟩ := hp
      clear gt22
      show Tn _ _ 17 T σ20 [(0, .ref a), (1, .int (iI k)), (2, .int (iI w))] [.int (iI v27)] _
      refine tn_if_ne (tgt := 22) dX11_stack_17 (by decide) ⟨by omega, by omega⟩ (fun h30 => ?_) (fun h30 => ?_)
      · refine tn_iload_n dX11_stack_22 rfl 2 rfl ?_
        refine tn_iconst dX11_stack_23 ?_
        refine tn_icmp_ne (tgt := 35) dX11_stack_24 (by decide) ⟨by omega, by omega⟩ ⟨by decide, by decide⟩ (fun h31 => ?_) (fun h31 => ?_)
        · refine tn_iload_n dX11_stack_35 rfl 2 rfl ?_
          refine tn_if_ne (tgt := 49) dX11_stack_36 (by decide) ⟨by omega, by omega⟩ (fun h32 => ?_) (fun h32 => ?_)
          · refine tn_aload_n dX11_stack_49 rfl 0 rfl ?_
            refine tn_getR (ci := 11) (i := 8) (n := 103) (x := rn) dX11_stack_50 rfl lay_11 (by decide) fl11_83 ha rfl rfl (rc_F F29 (Or.inl (by decide)) (by decide) (hrn)) ?_
            refine tn_callV (M := m_X11_stack) (pc := 53) (ix := 224) (ci := 7) (M' := m_X7_foundNames) (As := []) (rest := []) dX11_stack_53 ok_X7_foundNames im_X7_foundNames se_X7_foundNames ml11_224 np_X7_foundNames rfl rfl hk5o rfl (Nat.le_of_ble_eq_true rfl) (Nat.le_of_ble_eq_true rfl) rfl (k_X7_foundNames_j (d + 1) (T := T) (σ := σ20) (a := rn) (xa := xa) (y := y) hk5o w28 (rc_F F29 (Or.inl (by decide)) (by decide) (hxa)) (rc_F F29 (Or.inl (by decide)) (by decide) (hy))) (fun r33 T35 σ34 gt36 hp => ?_)
            obtain ⟨v39, rfl, rfl, rfl, f37, f38⟩ := hp
            clear gt36
            show Tn _ _ 56 T σ20 [(0, .ref a), (1, .int (iI k)), (2, .int (iI w))] [.int (iI v39)] _
            exact tn_iret rfl dX11_stack_56 ⟨_, rfl, rfl, w28, (FrC.rfl.trans (FrC.sub F29 (by decide))), by omega, (CHX.rfl.trans (CHX.sub f24 (by simp) (by simp) (by simp))), Or.inr ⟨by omega, _, f26, Or.inr ⟨by omega, by first | exact Or.inl ⟨by omega, f38⟩ | exact Or.inr (Or.inl ⟨by omega, f38⟩) | exact Or.inr (Or.inr ⟨by omega, f38⟩)⟩⟩⟩
          · refine tn_aload_n dX11_stack_39 rfl 0 rfl ?_
            refine tn_getR (ci := 11) (i := 8) (n := 103) (x := rn) dX11_stack_40 rfl lay_11 (by decide) fl11_83 ha rfl rfl (rc_F F29 (Or.inl (by decide)) (by decide) (hrn)) ?_
            refine tn_callV (M := m_X11_stack) (pc := 43) (ix := 221) (ci := 7) (M' := m_X7_foundRoutine) (As := []) (rest := []) dX11_stack_43 ok_X7_foundRoutine im_X7_foundRoutine se_X7_foundRoutine ml11_221 np_X7_foundRoutine rfl rfl hk5o rfl (Nat.le_of_ble_eq_true rfl) (Nat.le_of_ble_eq_true rfl) rfl (k_X7_foundRoutine_j (d + 1) (T := T) (σ := σ20) (a := rn) (xa := xa) (y := y) hk5o w28 (rc_F F29 (Or.inl (by decide)) (by decide) (hxa)) (rc_F F29 (Or.inl (by decide)) (by decide) (hy))) (fun r40 T42 σ41 gt43 hp => ?_)
            obtain ⟨v46, rfl, rfl, rfl, f44, f45⟩ := hp
            clear gt43
            show Tn _ _ 46 T σ20 [(0, .ref a), (1, .int (iI k)), (2, .int (iI w))] [.int (iI v46)] _
            refine tn_goto (tgt := 56) dX11_stack_46 (by decide) ?_
            exact tn_iret rfl dX11_stack_56 ⟨_, rfl, rfl, w28, (FrC.rfl.trans (FrC.sub F29 (by decide))), by omega, (CHX.rfl.trans (CHX.sub f24 (by simp) (by simp) (by simp))), Or.inr ⟨by omega, _, f26, Or.inr ⟨by omega, by first | exact Or.inl ⟨by omega, f45⟩ | exact Or.inr (Or.inl ⟨by omega, f45⟩) | exact Or.inr (Or.inr ⟨by omega, f45⟩)⟩⟩⟩
        · refine tn_aload_n dX11_stack_27 rfl 0 rfl ?_
          refine tn_getR (ci := 11) (i := 8) (n := 103) (x := rn) dX11_stack_28 rfl lay_11 (by decide) fl11_83 ha rfl rfl (rc_F F29 (Or.inl (by decide)) (by decide) (hrn)) ?_
          obtain ⟨hk49, hl50⟩ : AR T xd 1 108 108 := ar_of (wf_62 hw hk5o) hxd
          have hk49i : IA T xd := by unfold IA; omega
          refine tn_callV (M := m_X11_stack) (pc := 31) (ix := 218) (ci := 7) (M' := m_X7_foundLine) (As := []) (rest := []) dX11_stack_31 ok_X7_foundLine im_X7_foundLine se_X7_foundLine ml11_218 np_X7_foundLine rfl rfl hk5o rfl (Nat.le_of_ble_eq_true rfl) (Nat.le_of_ble_eq_true rfl) rfl (k_X7_foundLine_j (d + 2) (T := T) (σ := σ20) (a := rn) (xd := xd) hk5o w28 (rc_F F29 (Or.inl (by decide)) (by decide) (hxd))) (fun r51 T53 σ52 gt54 hp => ?_)
          obtain ⟨v57, rfl, rfl, rfl, f55, f56⟩ := hp
          clear gt54
          show Tn _ _ 34 T σ20 [(0, .ref a), (1, .int (iI k)), (2, .int (iI w))] [.int (iI v57)] _
          exact tn_iret rfl dX11_stack_34 ⟨_, rfl, rfl, w28, (FrC.rfl.trans (FrC.sub F29 (by decide))), by omega, (CHX.rfl.trans (CHX.sub f24 (by simp) (by simp) (by simp))), Or.inr ⟨by omega, _, f26, Or.inr ⟨by omega, by first | exact Or.inl ⟨by omega, f56⟩ | exact Or.inr (Or.inl ⟨by omega, f56⟩) | exact Or.inr (Or.inr ⟨by omega, f56⟩)⟩⟩⟩
      · refine tn_iconst dX11_stack_20 ?_
        exact tn_iret rfl dX11_stack_21 ⟨_, rfl, rfl, w28, (FrC.rfl.trans (FrC.sub F29 (by decide))), by omega, (CHX.rfl.trans (CHX.sub f24 (by simp) (by simp) (by simp))), Or.inr ⟨by omega, _, f26, Or.inl ⟨by omega, rfl⟩⟩⟩
