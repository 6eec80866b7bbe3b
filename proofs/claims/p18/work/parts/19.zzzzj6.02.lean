section
set_option maxHeartbeats 1000000 in
set_option maxRecDepth 20000 in
theorem l_X0_sameStack_x_25 (d : Nat) {T : CT} {σ0 : MS} {a : Nat} {rx1 : Nat} {s0 : Int} {to : Nat} {pl : Nat} {txa : Nat} {txb : Nat} {txc : Nat} {txd : Nat} {txe : Nat} {y : Nat} {pxa : Nat} {pxc : Nat} {pxd : Nat} {pxe : Nat} {yy : Nat} {post : Option Value → CT → MS → Prop} (h_a : OB T a 0) (h_rx1 : OB T rx1 10) (hw0 : WT T σ0) (hto : σ0.2.1 0 a = (to : Int)) (hpl : σ0.2.1 1 a = (pl : Int)) (htxa : σ0.2.1 59 to = (txa : Int)) (htxb : σ0.2.1 60 to = (txb : Int)) (htxc : σ0.2.1 61 to = (txc : Int)) (htxd : σ0.2.1 62 to = (txd : Int)) (htxe : σ0.2.1 63 to = (txe : Int)) (hy : σ0.2.1 55 to = (y : Int)) (hpxa : σ0.2.1 59 pl = (pxa : Int)) (hpxc : σ0.2.1 61 pl = (pxc : Int)) (hpxd : σ0.2.1 62 pl = (pxd : Int)) (hpxe : σ0.2.1 63 pl = (pxe : Int)) (hyy : σ0.2.1 55 pl = (yy : Int)) (hx_114 : ∀ (i2 : Int) (i3 : Int) (σ : MS) , (WT T σ) → (FrC T [2, 3, 70, 71] σ0 σ) → (0 ≤ i2 ∧ i2 ≤ 1) → (0 ≤ i3 ∧ i3 ≤ 2147483647) → (CHX [(2, a), (3, a), (70, to), (71, to), (70, pl), (71, pl)] [] [] σ0 σ) → (True) → (True) → (SSC9 T σ0 a to pl txa txb txc txd txe y pxa pxc pxd pxe yy s0 (σ0.2.1 58 to).toNat i2 σ) → Tn (d + 6) m_X0_sameStack 114 T σ [(0, .ref a), (1, .ref rx1), (2, .int (iI i2)), (3, .int (iI i3))] [] post) : ∀ (nq9 : Nat) (i2 : Int) (i3 : Int) (σ : MS) , (WT T σ) → (FrC T [2, 3, 70, 71] σ0 σ) → (0 ≤ i2 ∧ i2 ≤ 1) → (0 ≤ i3 ∧ i3 ≤ 2147483647) → (CHX [(2, a), (3, a), (70, to), (71, to), (70, pl), (71, pl)] [] [] σ0 σ) → (SSC9 T σ0 a to pl txa txb txc txd txe y pxa pxc pxd pxe yy s0 i3.toNat i2 σ) → (0 ≤ i3 ∧ (i3 ≤ σ0.2.1 58 to ∨ i3 = 0)) → (2147483700 - i3).toNat = nq9 → Tn (d + 6) m_X0_sameStack 25 T σ [(0, .ref a), (1, .ref rx1), (2, .int (iI i2)), (3, .int (iI i3))] [] post := by
  intro nq9
  induction nq9 using Nat.strongRecOn with
  | _ nq9 ih =>
    intro i2 i3 σ hw hF r_i2 r_i3 hC hS hk hm
    refine tn_iload_n dX0_sameStack_25 rfl 3 rfl ?_
    refine tn_aload_n dX0_sameStack_26 rfl 0 rfl ?_
    have hk3 : (T to).1 = 37 := ob_of (wf_0 hw0 h_a) hto
    have hk3o : OB T to 7 := ⟨by omega, by rw [hk3]; rfl, by omega⟩
    refine tn_getR (ci := 0) (i := 0) (n := 0) (x := to) dX0_sameStack_27 rfl lay_0 (by decide) fl0_14 h_a rfl rfl (rc_F hF (Or.inl (by decide)) (by decide) (hto)) ?_
    refine tn_getI (ci := 7) (i := 3) (n := 58) (t := σ0.2.1 58 to) dX0_sameStack_30 rfl lay_7 (by decide) fl0_60 hk3o rfl rfl (rc_F hF (Or.inl (by decide)) (by decide) (rfl)) ?_
    have g5 : ((-2147483648 : Int) ≤ σ0.2.1 58 to ∧ σ0.2.1 58 to ≤ 2147483647) := wf_58 hw0 hk3o
    refine tn_icmp_ge (tgt := 114) dX0_sameStack_33 (by decide) ⟨by omega, by omega⟩ ⟨by omega, by omega⟩ (fun h6 => ?_) (fun h6 => ?_)
    · exact tn_sub [0, 1, 2, 3] rfl (hx_114 (i2) (i3) σ hw (FrC.rfl.trans (FrC.sub hF (by decide))) (by omega) (by omega) hC trivial trivial (by rw [← show i3.toNat = (σ0.2.1 58 to).toNat by omega]; exact hS))
    · refine tn_iload_n dX0_sameStack_36 rfl 2 rfl ?_
      refine tn_aload_n dX0_sameStack_37 rfl 0 rfl ?_
      refine tn_getR (ci := 0) (i := 0) (n := 0) (x := to) dX0_sameStack_38 rfl lay_0 (by decide) fl0_14 h_a rfl rfl (rc_F hF (Or.inl (by decide)) (by decide) (hto)) ?_
      refine tn_iload_n dX0_sameStack_41 rfl 3 rfl ?_
      obtain ⟨hk9, hl10⟩ : AR T txa 15 9 9 := ar_of (wf_59 hw0 hk3o) htxa
      have hk9i : IA T txa := by unfold IA; omega
      obtain ⟨hl14, hk13a, hk13b⟩ := ex_at (wf_61 hw0 hk3o) htxc
      have hk13 : (T txc).1 = 1 := hk13b (by omega)
      clear hk13a hk13b
      have hk13i : IA T txc := by unfold IA; omega
      obtain ⟨hl18, hk17a, hk17b⟩ := ex_at (wf_55 hw0 hk3o) hy
      have hk17i : (T y).1 = 4 ∨ (T y).1 = 5 := by omega
      have hk17c : RROW T to y := ⟨hk17a, hk17b⟩
      clear hk17a hk17b
      refine tn_callV (M := m_X0_sameStack) (pc := 42) (ix := 63) (ci := 7) (M' := m_X7_find) (As := [.int (iI i3)]) (rest := [.int (iI i2)]) dX0_sameStack_42 ok_X7_find im_X7_find se_X7_find ml0_63 np_X7_find rfl rfl hk3o rfl (Nat.le_of_ble_eq_true rfl) (Nat.le_of_ble_eq_true rfl) rfl (k_X7_find_j (d + 1) (T := T) (σ := σ) (a := to) (k := i3) (xa := txa) (xc := txc) (y := y) hk3o (by omega) hw (rc_F hF (Or.inl (by decide)) (by decide) (htxa)) (rc_F hF (Or.inl (by decide)) (by decide) (htxc)) (rc_F hF (Or.inl (by decide)) (by decide) (hy))) (fun r19 T21 σ20 gt22 hp => ?_)
      obtain ⟨v27, rfl, rfl, w28, F29, f23, f24, f25, f26⟩ := hp
      clear gt22
      show Tn _ _ 45 T σ20 [(0, .ref a), (1, .ref rx1), (2, .int (iI i2)), (3, .int (iI i3))] [.int (iI v27), .int (iI i2)] _
      refine tn_if_eq (tgt := 97) dX0_sameStack_45 (by decide) ⟨by omega, by omega⟩ (fun h30 => ?_) (fun h30 => ?_)
      · refine tn_iconst dX0_sameStack_97 ?_
        refine tn_iand dX0_sameStack_98 ?_
        refine tn_bandX (x := i2) (y := 0) (by omega) (by omega) (fun z33 g34 g34x => ?_)
        refine tn_istore_n (L' := [(2, .int (iI z33)), (0, .ref a), (1, .ref rx1), (3, .int (iI i3))]) dX0_sameStack_99 rfl (by decide) rfl ?_
        refine tn_iload_n dX0_sameStack_100 rfl 0 rfl ?_
        refine tn_aload_n dX0_sameStack_101 rfl 1 rfl ?_
        refine tn_aload_n dX0_sameStack_102 rfl 2 rfl ?_
        have hk37 : (T pl).1 = 57 := ob_of (wf_1 hw0 h_a) hpl
        have hk37o : OB T pl 7 := ⟨by omega, by rw [hk37]; rfl, by omega⟩
        obtain ⟨hk41, hl42⟩ : AR T txb 1 9 9 := ar_of (wf_60 hw0 hk3o) htxb
        have hk41i : IA T txb := by unfold IA; omega
        obtain ⟨hk45, hl46⟩ : AR T txe 1 1728 1728 := ar_of (wf_63 hw0 hk3o) htxe
        have hk45i : IA T txe := by unfold IA; omega
        obtain ⟨hk49, hl50⟩ : AR T pxe 1 1728 1728 := ar_of (wf_63 hw0 hk37o) hpxe
        have hk49i : IA T pxe := by unfold IA; omega
        refine tn_callV (M := m_X0_sameStack) (pc := 103) (ix := 74) (ci := 0) (M' := m_X0_sameNames) (As := [.ref rx1]) (rest := [.int (iI z33)]) dX0_sameStack_103 ok_X0_sameNames im_X0_sameNames se_X0_sameNames ml0_74 np_X0_sameNames rfl rfl h_a rfl (Nat.le_of_ble_eq_true rfl) (Nat.le_of_ble_eq_true rfl) rfl (k_X0_sameNames_x (d) (T := T) (σ := σ20) (a := a) (t := rx1) (to := to) (pl := pl) (txa := txa) (txb := txb) (y := y) (txe := txe) (pxe := pxe) h_a h_rx1 w28 (rc_F F29 (Or.inl (by decide)) (by decide) (rc_F hF (Or.inl (by decide)) (by decide) (hto))) (rc_F F29 (Or.inl (by decide)) (by decide) (rc_F hF (Or.inl (by decide)) (by decide) (hpl))) (rc_F F29 (Or.inl (by decide)) (by decide) (rc_F hF (Or.inl (by decide)) (by decide) (htxa))) (rc_F F29 (Or.inl (by decide)) (by decide) (rc_F hF (Or.inl (by decide)) (by decide) (htxb))) (rc_F F29 (Or.inl (by decide)) (by decide) (rc_F hF (Or.inl (by decide)) (by decide) (hy))) (rc_F F29 (Or.inl (by decide)) (by decide) (rc_F hF (Or.inl (by decide)) (by decide) (htxe))) (rc_F F29 (Or.inl (by decide)) (by decide) (rc_F hF (Or.inl (by decide)) (by decide) (hpxe)))) (fun r51 T53 σ52 gt54 hp => ?_)
        obtain ⟨v58, rfl, rfl, w59, F60, f55, f56, f57⟩ := hp
        clear gt54
        show Tn _ _ 106 T σ52 [(2, .int (iI z33)), (0, .ref a), (1, .ref rx1), (3, .int (iI i3))] [.int (iI v58), .int (iI z33)] _
        refine tn_iand dX0_sameStack_106 ?_
        refine tn_bandX (x := z33) (y := v58) (by omega) (by omega) (fun z63 g64 g64x => ?_)
        refine tn_istore_n (L' := [(2, .int (iI z63)), (0, .ref a), (1, .ref rx1), (3, .int (iI i3))]) dX0_sameStack_107 rfl (by decide) rfl ?_
        refine tn_iinc (q0 := 3) (L' := [(3, .int (iI (i3 + 1))), (2, .int (iI z63)), (0, .ref a), (1, .ref rx1)]) dX0_sameStack_108 rfl (by decide) rfl ?_
        refine tn_goto (tgt := 25) dX0_sameStack_111 (by decide) ?_
        exact tn_sub [2, 3, 1, 0] rfl (ih _ (by omega) (z63) (i3 + 1) σ52 w59 (((FrC.rfl.trans (FrC.sub hF (by decide))).trans (FrC.sub F29 (by decide))).trans (FrC.sub F60 (by decide))) (by omega) (by omega) ((hC.trans (CHX.sub f24 (by simp) (by simp) (by simp))).trans (CHX.sub f56 (by simp) (by simp) (by simp))) (SSC9.st hS (by omega) hw hC ⟨_, _, _, ⟨_, _, f24, f26, w28, Or.inl ⟨by omega, rfl, rfl⟩⟩, f56, f57, (by omega), (by omega)⟩) (by omega) rfl)
      · refine tn_aload_n dX0_sameStack_48 rfl 0 rfl ?_
        have hk67 : (T pl).1 = 57 := ob_of (wf_1 hw0 h_a) hpl
        have hk67o : OB T pl 7 := ⟨by omega, by rw [hk67]; rfl, by omega⟩
        refine tn_getR (ci := 0) (i := 1) (n := 1) (x := pl) dX0_sameStack_49 rfl lay_0 (by decide) fl0_20 h_a rfl rfl (rc_F F29 (Or.inl (by decide)) (by decide) (rc_F hF (Or.inl (by decide)) (by decide) (hpl))) ?_
        refine tn_iload_n dX0_sameStack_52 rfl 3 rfl ?_
        obtain ⟨hk71, hl72⟩ : AR T pxa 15 9 9 := ar_of (wf_59 hw0 hk67o) hpxa
        have hk71i : IA T pxa := by unfold IA; omega
        obtain ⟨hl76, hk75a, hk75b⟩ := ex_at (wf_61 hw0 hk67o) hpxc
        have hk75 : (T pxc).1 = 14 := hk75a (by omega)
        clear hk75a hk75b
        have hk75i : IA T pxc := by unfold IA; omega
        obtain ⟨hl80, hk79a, hk79b⟩ := ex_at (wf_55 hw0 hk67o) hyy
        have hk79i : (T yy).1 = 4 ∨ (T yy).1 = 5 := by omega
        have hk79c : RROW T pl yy := ⟨hk79a, hk79b⟩
        clear hk79a hk79b
        refine tn_callV (M := m_X0_sameStack) (pc := 53) (ix := 63) (ci := 7) (M' := m_X7_find) (As := [.int (iI i3)]) (rest := [.int (iI i2)]) dX0_sameStack_53 ok_X7_find im_X7_find se_X7_find ml0_63 np_X7_find rfl rfl hk67o rfl (Nat.le_of_ble_eq_true rfl) (Nat.le_of_ble_eq_true rfl) rfl (k_X7_find_j (d + 1) (T := T) (σ := σ20) (a := pl) (k := i3) (xa := pxa) (xc := pxc) (y := yy) hk67o (by omega) w28 (rc_F F29 (Or.inl (by decide)) (by decide) (rc_F hF (Or.inl (by decide)) (by decide) (hpxa))) (rc_F F29 (Or.inl (by decide)) (by decide) (rc_F hF (Or.inl (by decide)) (by decide) (hpxc))) (rc_F F29 (Or.inl (by decide)) (by decide) (rc_F hF (Or.inl (by decide)) (by decide) (hyy)))) (fun r81 T83 σ82 gt84 hp => ?_)
        obtain ⟨v89, rfl, rfl, w90, F91, f85, f86, f87, f88⟩ := hp
        clear gt84
        show Tn _ _ 56 T σ82 [(0, .ref a), (1, .ref rx1), (2, .int (iI i2)), (3, .int (iI i3))] [.int (iI v89), .int (iI i2)] _
        refine tn_if_eq (tgt := 97) dX0_sameStack_56 (by decide) ⟨by omega, by omega⟩ (fun h92 => ?_) (fun h92 => ?_)
        · refine tn_iconst dX0_sameStack_97 ?_
          refine tn_iand dX0_sameStack_98 ?_
          refine tn_bandX (x := i2) (y := 0) (by omega) (by omega) (fun z95 g96 g96x => ?_)
          refine tn_istore_n (L' := [(2, .int (iI z95)), (0, .ref a), (1, .ref rx1), (3, .int (iI i3))]) dX0_sameStack_99 rfl (by decide) rfl ?_
          refine tn_iload_n dX0_sameStack_100 rfl 0 rfl ?_
          refine tn_aload_n dX0_sameStack_101 rfl 1 rfl ?_
          refine tn_aload_n dX0_sameStack_102 rfl 2 rfl ?_
          obtain ⟨hk99, hl100⟩ : AR T txb 1 9 9 := ar_of (wf_60 hw0 hk3o) htxb
          have hk99i : IA T txb := by unfold IA; omega
          obtain ⟨hk103, hl104⟩ : AR T txe 1 1728 1728 := ar_of (wf_63 hw0 hk3o) htxe
          have hk103i : IA T txe := by unfold IA; omega
          obtain ⟨hk107, hl108⟩ : AR T pxe 1 1728 1728 := ar_of (wf_63 hw0 hk67o) hpxe
          have hk107i : IA T pxe := by unfold IA; omega
          refine tn_callV (M := m_X0_sameStack) (pc := 103) (ix := 74) (ci := 0) (M' := m_X0_sameNames) (As := [.ref rx1]) (rest := [.int (iI z95)]) dX0_sameStack_103 ok_X0_sameNames im_X0_sameNames se_X0_sameNames ml0_74 np_X0_sameNames rfl rfl h_a rfl (Nat.le_of_ble_eq_true rfl) (Nat.le_of_ble_eq_true rfl) rfl (k_X0_sameNames_x (d) (T := T) (σ := σ82) (a := a) (t := rx1) (to := to) (pl := pl) (txa := txa) (txb := txb) (y := y) (txe := txe) (pxe := pxe) h_a h_rx1 w90 (rc_F F91 (Or.inl (by decide)) (by decide) (rc_F F29 (Or.inl (by decide)) (by decide) (rc_F hF (Or.inl (by decide)) (by decide) (hto)))) (rc_F F91 (Or.inl (by decide)) (by decide) (rc_F F29 (Or.inl (by decide)) (by decide) (rc_F hF (Or.inl (by decide)) (by decide) (hpl)))) (rc_F F91 (Or.inl (by decide)) (by decide) (rc_F F29 (Or.inl (by decide)) (by decide) (rc_F hF (Or.inl (by decide)) (by decide) (htxa)))) (rc_F F91 (Or.inl (by decide)) (by decide) (rc_F F29 (Or.inl (by decide)) (by decide) (rc_F hF (Or.inl (by decide)) (by decide) (htxb)))) (rc_F F91 (Or.inl (by decide)) (by decide) (rc_F F29 (Or.inl (by decide)) (by decide) (rc_F hF (Or.inl (by decide)) (by decide) (hy)))) (rc_F F91 (Or.inl (by decide)) (by decide) (rc_F F29 (Or.inl (by decide)) (by decide) (rc_F hF (Or.inl (by decide)) (by decide) (htxe)))) (rc_F F91 (Or.inl (by decide)) (by decide) (rc_F F29 (Or.inl (by decide)) (by decide) (rc_F hF (Or.inl (by decide)) (by decide) (hpxe))))) (fun r109 T111 σ110 gt112 hp => ?_)
          obtain ⟨v116, rfl, rfl, w117, F118, f113, f114, f115⟩ := hp
          clear gt112
          show Tn _ _ 106 T σ110 [(2, .int (iI z95)), (0, .ref a), (1, .ref rx1), (3, .int (iI i3))] [.int (iI v116), .int (iI z95)] _
          refine tn_iand dX0_sameStack_106 ?_
          refine tn_bandX (x := z95) (y := v116) (by omega) (by omega) (fun z121 g122 g122x => ?_)
          refine tn_istore_n (L' := [(2, .int (iI z121)), (0, .ref a), (1, .ref rx1), (3, .int (iI i3))]) dX0_sameStack_107 rfl (by decide) rfl ?_
          refine tn_iinc (q0 := 3) (L' := [(3, .int (iI (i3 + 1))), (2, .int (iI z121)), (0, .ref a), (1, .ref rx1)]) dX0_sameStack_108 rfl (by decide) rfl ?_
          refine tn_goto (tgt := 25) dX0_sameStack_111 (by decide) ?_
          exact tn_sub [2, 3, 1, 0] rfl (ih _ (by omega) (z121) (i3 + 1) σ110 w117 ((((FrC.rfl.trans (FrC.sub hF (by decide))).trans (FrC.sub F29 (by decide))).trans (FrC.sub F91 (by decide))).trans (FrC.sub F118 (by decide))) (by omega) (by omega) (((hC.trans (CHX.sub f24 (by simp) (by simp) (by simp))).trans (CHX.sub f86 (by simp) (by simp) (by simp))).trans (CHX.sub f114 (by simp) (by simp) (by simp))) (SSC9.st hS (by omega) hw hC ⟨_, _, _, ⟨_, _, f24, f26, w28, Or.inr ⟨by omega, _, f86, f88, w90, Or.inl ⟨by omega, rfl⟩⟩⟩, f114, f115, (by omega), (by omega)⟩) (by omega) rfl)
        · refine tn_aload_n dX0_sameStack_59 rfl 0 rfl ?_
          refine tn_getR (ci := 0) (i := 0) (n := 0) (x := to) dX0_sameStack_60 rfl lay_0 (by decide) fl0_14 h_a rfl rfl (rc_F F91 (Or.inl (by decide)) (by decide) (rc_F F29 (Or.inl (by decide)) (by decide) (rc_F hF (Or.inl (by decide)) (by decide) (hto)))) ?_
          refine tn_callV (M := m_X0_sameStack) (pc := 63) (ix := 67) (ci := 7) (M' := m_X7_foundRoutine) (As := []) (rest := [.int (iI i2)]) dX0_sameStack_63 ok_X7_foundRoutine im_X7_foundRoutine se_X7_foundRoutine ml0_67 np_X7_foundRoutine rfl rfl hk3o rfl (Nat.le_of_ble_eq_true rfl) (Nat.le_of_ble_eq_true rfl) rfl (k_X7_foundRoutine_j (d + 2) (T := T) (σ := σ82) (a := to) (xa := txa) (y := y) hk3o w90 (rc_F F91 (Or.inl (by decide)) (by decide) (rc_F F29 (Or.inl (by decide)) (by decide) (rc_F hF (Or.inl (by decide)) (by decide) (htxa)))) (rc_F F91 (Or.inl (by decide)) (by decide) (rc_F F29 (Or.inl (by decide)) (by decide) (rc_F hF (Or.inl (by decide)) (by decide) (hy))))) (fun r123 T125 σ124 gt126 hp => ?_)
          obtain ⟨v129, rfl, rfl, rfl, f127, f128⟩ := hp
          clear gt126
          show Tn _ _ 66 T σ82 [(0, .ref a), (1, .ref rx1), (2, .int (iI i2)), (3, .int (iI i3))] [.int (iI v129), .int (iI i2)] _
          refine tn_aload_n dX0_sameStack_66 rfl 0 rfl ?_
          refine tn_getR (ci := 0) (i := 1) (n := 1) (x := pl) dX0_sameStack_67 rfl lay_0 (by decide) fl0_20 h_a rfl rfl (rc_F F91 (Or.inl (by decide)) (by decide) (rc_F F29 (Or.inl (by decide)) (by decide) (rc_F hF (Or.inl (by decide)) (by decide) (hpl)))) ?_
          refine tn_callV (M := m_X0_sameStack) (pc := 70) (ix := 67) (ci := 7) (M' := m_X7_foundRoutine) (As := []) (rest := [.int (iI v129), .int (iI i2)]) dX0_sameStack_70 ok_X7_foundRoutine im_X7_foundRoutine se_X7_foundRoutine ml0_67 np_X7_foundRoutine rfl rfl hk67o rfl (Nat.le_of_ble_eq_true rfl) (Nat.le_of_ble_eq_true rfl) rfl (k_X7_foundRoutine_j (d + 2) (T := T) (σ := σ82) (a := pl) (xa := pxa) (y := yy) hk67o w90 (rc_F F91 (Or.inl (by decide)) (by decide) (rc_F F29 (Or.inl (by decide)) (by decide) (rc_F hF (Or.inl (by decide)) (by decide) (hpxa)))) (rc_F F91 (Or.inl (by decide)) (by decide) (rc_F F29 (Or.inl (by decide)) (by decide) (rc_F hF (Or.inl (by decide)) (by decide) (hyy))))) (fun r130 T132 σ131 gt133 hp => ?_)
          obtain ⟨v136, rfl, rfl, rfl, f134, f135⟩ := hp
          clear gt133
          show Tn _ _ 73 T σ82 [(0, .ref a), (1, .ref rx1), (2, .int (iI i2)), (3, .int (iI i3))] [.int (iI v136), .int (iI v129), .int (iI i2)] _
          refine tn_icmp_ne (tgt := 97) dX0_sameStack_73 (by decide) ⟨by omega, by omega⟩ ⟨by omega, by omega⟩ (fun h137 => ?_) (fun h137 => ?_)
          · refine tn_iconst dX0_sameStack_97 ?_
            refine tn_iand dX0_sameStack_98 ?_
            refine tn_bandX (x := i2) (y := 0) (by omega) (by omega) (fun z140 g141 g141x => ?_)
            refine tn_istore_n (L' := [(2, .int (iI z140)), (0, .ref a), (1, .ref rx1), (3, .int (iI i3))]) dX0_sameStack_99 rfl (by decide) rfl ?_
            refine tn_iload_n dX0_sameStack_100 rfl 0 rfl ?_
            refine tn_aload_n dX0_sameStack_101 rfl 1 rfl ?_
            refine tn_aload_n dX0_sameStack_102 rfl 2 rfl ?_
            obtain ⟨hk144, hl145⟩ : AR T txb 1 9 9 := ar_of (wf_60 hw0 hk3o) htxb
            have hk144i : IA T txb := by unfold IA; omega
            obtain ⟨hk148, hl149⟩ : AR T txe 1 1728 1728 := ar_of (wf_63 hw0 hk3o) htxe
            have hk148i : IA T txe := by unfold IA; omega
            obtain ⟨hk152, hl153⟩ : AR T pxe 1 1728 1728 := ar_of (wf_63 hw0 hk67o) hpxe
            have hk152i : IA T pxe := by unfold IA; omega
            refine tn_callV (M := m_X0_sameStack) (pc := 103) (ix := 74) (ci := 0) (M' := m_X0_sameNames) (As := [.ref rx1]) (rest := [.int (iI z140)]) dX0_sameStack_103 ok_X0_sameNames im_X0_sameNames se_X0_sameNames ml0_74 np_X0_sameNames rfl rfl h_a rfl (Nat.le_of_ble_eq_true rfl) (Nat.le_of_ble_eq_true rfl) rfl (k_X0_sameNames_x (d) (T := T) (σ := σ82) (a := a) (t := rx1) (to := to) (pl := pl) (txa := txa) (txb := txb) (y := y) (txe := txe) (pxe := pxe) h_a h_rx1 w90 (rc_F F91 (Or.inl (by decide)) (by decide) (rc_F F29 (Or.inl (by decide)) (by decide) (rc_F hF (Or.inl (by decide)) (by decide) (hto)))) (rc_F F91 (Or.inl (by decide)) (by decide) (rc_F F29 (Or.inl (by decide)) (by decide) (rc_F hF (Or.inl (by decide)) (by decide) (hpl)))) (rc_F F91 (Or.inl (by decide)) (by decide) (rc_F F29 (Or.inl (by decide)) (by decide) (rc_F hF (Or.inl (by decide)) (by decide) (htxa)))) (rc_F F91 (Or.inl (by decide)) (by decide) (rc_F F29 (Or.inl (by decide)) (by decide) (rc_F hF (Or.inl (by decide)) (by decide) (htxb)))) (rc_F F91 (Or.inl (by decide)) (by decide) (rc_F F29 (Or.inl (by decide)) (by decide) (rc_F hF (Or.inl (by decide)) (by decide) (hy)))) (rc_F F91 (Or.inl (by decide)) (by decide) (rc_F F29 (Or.inl (by decide)) (by decide) (rc_F hF (Or.inl (by decide)) (by decide) (htxe)))) (rc_F F91 (Or.inl (by decide)) (by decide) (rc_F F29 (Or.inl (by decide)) (by decide) (rc_F hF (Or.inl (by decide)) (by decide) (hpxe))))) (fun r154 T156 σ155 gt157 hp => ?_)
            obtain ⟨v161, rfl, rfl, w162, F163, f158, f159, f160⟩ := hp
            clear gt157
            show Tn _ _ 106 T σ155 [(2, .int (iI z140)), (0, .ref a), (1, .ref rx1), (3, .int (iI i3))] [.int (iI v161), .int (iI z140)] _
            refine tn_iand dX0_sameStack_106 ?_
            refine tn_bandX (x := z140) (y := v161) (by omega) (by omega) (fun z166 g167 g167x => ?_)
            refine tn_istore_n (L' := [(2, .int (iI z166)), (0, .ref a), (1, .ref rx1), (3, .int (iI i3))]) dX0_sameStack_107 rfl (by decide) rfl ?_
            refine tn_iinc (q0 := 3) (L' := [(3, .int (iI (i3 + 1))), (2, .int (iI z166)), (0, .ref a), (1, .ref rx1)]) dX0_sameStack_108 rfl (by decide) rfl ?_
            refine tn_goto (tgt := 25) dX0_sameStack_111 (by decide) ?_
            exact tn_sub [2, 3, 1, 0] rfl (ih _ (by omega) (z166) (i3 + 1) σ155 w162 ((((FrC.rfl.trans (FrC.sub hF (by decide))).trans (FrC.sub F29 (by decide))).trans (FrC.sub F91 (by decide))).trans (FrC.sub F163 (by decide))) (by omega) (by omega) (((hC.trans (CHX.sub f24 (by simp) (by simp) (by simp))).trans (CHX.sub f86 (by simp) (by simp) (by simp))).trans (CHX.sub f159 (by simp) (by simp) (by simp))) (SSC9.st hS (by omega) hw hC ⟨_, _, _, ⟨_, _, f24, f26, w28, Or.inr ⟨by omega, _, f86, f88, w90, Or.inr ⟨by omega, _, _, f128, f135, Or.inr ⟨rfl, fun q => absurd q.1 (by omega)⟩⟩⟩⟩, f159, f160, (by omega), (by omega)⟩) (by omega) rfl)
          · refine tn_aload_n dX0_sameStack_76 rfl 0 rfl ?_
            refine tn_getR (ci := 0) (i := 0) (n := 0) (x := to) dX0_sameStack_77 rfl lay_0 (by decide) fl0_14 h_a rfl rfl (rc_F F91 (Or.inl (by decide)) (by decide) (rc_F F29 (Or.inl (by decide)) (by decide) (rc_F hF (Or.inl (by decide)) (by decide) (hto)))) ?_
            obtain ⟨hk170, hl171⟩ : AR T txd 1 108 108 := ar_of (wf_62 hw0 hk3o) htxd
            have hk170i : IA T txd := by unfold IA; omega
            refine tn_callV (M := m_X0_sameStack) (pc := 80) (ix := 71) (ci := 7) (M' := m_X7_foundLine) (As := []) (rest := [.int (iI i2)]) dX0_sameStack_80 ok_X7_foundLine im_X7_foundLine se_X7_foundLine ml0_71 np_X7_foundLine rfl rfl hk3o rfl (Nat.le_of_ble_eq_true rfl) (Nat.le_of_ble_eq_true rfl) rfl (k_X7_foundLine_j (d + 3) (T := T) (σ := σ82) (a := to) (xd := txd) hk3o w90 (rc_F F91 (Or.inl (by decide)) (by decide) (rc_F F29 (Or.inl (by decide)) (by decide) (rc_F hF (Or.inl (by decide)) (by decide) (htxd))))) (fun r172 T174 σ173 gt175 hp => ?_)
            obtain ⟨v178, rfl, rfl, rfl, f176, f177⟩ := hp
            clear gt175
            show Tn _ _ 83 T σ82 [(0, .ref a), (1, .ref rx1), (2, .int (iI i2)), (3, .int (iI i3))] [.int (iI v178), .int (iI i2)] _
            refine tn_aload_n dX0_sameStack_83 rfl 0 rfl ?_
            refine tn_getR (ci := 0) (i := 1) (n := 1) (x := pl) dX0_sameStack_84 rfl lay_0 (by decide) fl0_20 h_a rfl rfl (rc_F F91 (Or.inl (by decide)) (by decide) (rc_F F29 (Or.inl (by decide)) (by decide) (rc_F hF (Or.inl (by decide)) (by decide) (hpl)))) ?_
            obtain ⟨hk181, hl182⟩ : AR T pxd 1 108 108 := ar_of (wf_62 hw0 hk67o) hpxd
            have hk181i : IA T pxd := by unfold IA; omega
            refine tn_callV (M := m_X0_sameStack) (pc := 87) (ix := 71) (ci := 7) (M' := m_X7_foundLine) (As := []) (rest := [.int (iI v178), .int (iI i2)]) dX0_sameStack_87 ok_X7_foundLine im_X7_foundLine se_X7_foundLine ml0_71 np_X7_foundLine rfl rfl hk67o rfl (Nat.le_of_ble_eq_true rfl) (Nat.le_of_ble_eq_true rfl) rfl (k_X7_foundLine_j (d + 3) (T := T) (σ := σ82) (a := pl) (xd := pxd) hk67o w90 (rc_F F91 (Or.inl (by decide)) (by decide) (rc_F F29 (Or.inl (by decide)) (by decide) (rc_F hF (Or.inl (by decide)) (by decide) (hpxd))))) (fun r183 T185 σ184 gt186 hp => ?_)
            obtain ⟨v189, rfl, rfl, rfl, f187, f188⟩ := hp
            clear gt186
            show Tn _ _ 90 T σ82 [(0, .ref a), (1, .ref rx1), (2, .int (iI i2)), (3, .int (iI i3))] [.int (iI v189), .int (iI v178), .int (iI i2)] _
            refine tn_icmp_ne (tgt := 97) dX0_sameStack_90 (by decide) ⟨by omega, by omega⟩ ⟨by omega, by omega⟩ (fun h190 => ?_) (fun h190 => ?_)
            · refine tn_iconst dX0_sameStack_97 ?_
              refine tn_iand dX0_sameStack_98 ?_
              refine tn_bandX (x := i2) (y := 0) (by omega) (by omega) (fun z193 g194 g194x => ?_)
              refine tn_istore_n (L' := [(2, .int (iI z193)), (0, .ref a), (1, .ref rx1), (3, .int (iI i3))]) dX0_sameStack_99 rfl (by decide) rfl ?_
              refine tn_iload_n dX0_sameStack_100 rfl 0 rfl ?_
              refine tn_aload_n dX0_sameStack_101 rfl 1 rfl ?_
              refine tn_aload_n dX0_sameStack_102 rfl 2 rfl ?_
              obtain ⟨hk197, hl198⟩ : AR T txb 1 9 9 := ar_of (wf_60 hw0 hk3o) htxb
              have hk197i : IA T txb := by unfold IA; omega
              obtain ⟨hk201, hl202⟩ : AR T txe 1 1728 1728 := ar_of (wf_63 hw0 hk3o) htxe
              have hk201i : IA T txe := by unfold IA; omega
              obtain ⟨hk205, hl206⟩ : AR T pxe 1 1728 1728 := ar_of (wf_63 hw0 hk67o) hpxe
              have hk205i : IA T pxe := by unfold IA; omega
              refine tn_callV (M := m_X0_sameStack) (pc := 103) (ix := 74) (ci := 0) (M' := m_X0_sameNames) (As := [.ref rx1]) (rest := [.int (iI z193)]) dX0_sameStack_103 ok_X0_sameNames im_X0_sameNames se_X0_sameNames ml0_74 np_X0_sameNames rfl rfl h_a rfl (Nat.le_of_ble_eq_true rfl) (Nat.le_of_ble_eq_true rfl) rfl (k_X0_sameNames_x (d) (T := T) (σ := σ82) (a := a) (t := rx1) (to := to) (pl := pl) (txa := txa) (txb := txb) (y := y) (txe := txe) (pxe := pxe) h_a h_rx1 w90 (rc_F F91 (Or.inl (by decide)) (by decide) (rc_F F29 (Or.inl (by decide)) (by decide) (rc_F hF (Or.inl (by decide)) (by decide) (hto)))) (rc_F F91 (Or.inl (by decide)) (by decide) (rc_F F29 (Or.inl (by decide)) (by decide) (rc_F hF (Or.inl (by decide)) (by decide) (hpl)))) (rc_F F91 (Or.inl (by decide)) (by decide) (rc_F F29 (Or.inl (by decide)) (by decide) (rc_F hF (Or.inl (by decide)) (by decide) (htxa)))) (rc_F F91 (Or.inl (by decide)) (by decide) (rc_F F29 (Or.inl (by decide)) (by decide) (rc_F hF (Or.inl (by decide)) (by decide) (htxb)))) (rc_F F91 (Or.inl (by decide)) (by decide) (rc_F F29 (Or.inl (by decide)) (by decide) (rc_F hF (Or.inl (by decide)) (by decide) (hy)))) (rc_F F91 (Or.inl (by decide)) (by decide) (rc_F F29 (Or.inl (by decide)) (by decide) (rc_F hF (Or.inl (by decide)) (by decide) (htxe)))) (rc_F F91 (Or.inl (by decide)) (by decide) (rc_F F29 (Or.inl (by decide)) (by decide) (rc_F hF (Or.inl (by decide)) (by decide) (hpxe))))) (fun r207 T209 σ208 gt210 hp => ?_)
              obtain ⟨v214, rfl, rfl, w215, F216, f211, f212, f213⟩ := hp
              clear gt210
              show Tn _ _ 106 T σ208 [(2, .int (iI z193)), (0, .ref a), (1, .ref rx1), (3, .int (iI i3))] [.int (iI v214), .int (iI z193)] _
              refine tn_iand dX0_sameStack_106 ?_
              refine tn_bandX (x := z193) (y := v214) (by omega) (by omega) (fun z219 g220 g220x => ?_)
              refine tn_istore_n (L' := [(2, .int (iI z219)), (0, .ref a), (1, .ref rx1), (3, .int (iI i3))]) dX0_sameStack_107 rfl (by decide) rfl ?_
              refine tn_iinc (q0 := 3) (L' := [(3, .int (iI (i3 + 1))), (2, .int (iI z219)), (0, .ref a), (1, .ref rx1)]) dX0_sameStack_108 rfl (by decide) rfl ?_
              refine tn_goto (tgt := 25) dX0_sameStack_111 (by decide) ?_
              exact tn_sub [2, 3, 1, 0] rfl (ih _ (by omega) (z219) (i3 + 1) σ208 w215 ((((FrC.rfl.trans (FrC.sub hF (by decide))).trans (FrC.sub F29 (by decide))).trans (FrC.sub F91 (by decide))).trans (FrC.sub F216 (by decide))) (by omega) (by omega) (((hC.trans (CHX.sub f24 (by simp) (by simp) (by simp))).trans (CHX.sub f86 (by simp) (by simp) (by simp))).trans (CHX.sub f212 (by simp) (by simp) (by simp))) (SSC9.st hS (by omega) hw hC ⟨_, _, _, ⟨_, _, f24, f26, w28, Or.inr ⟨by omega, _, f86, f88, w90, Or.inr ⟨by omega, _, _, f128, f135, Or.inr ⟨rfl, fun q => absurd (f177.trans (q.2.trans f188.symm)) (by omega)⟩⟩⟩⟩, f212, f213, (by omega), (by omega)⟩) (by omega) rfl)
            · refine tn_iconst dX0_sameStack_93 ?_
              refine tn_goto (tgt := 98) dX0_sameStack_94 (by decide) ?_
              refine tn_iand dX0_sameStack_98 ?_
              refine tn_bandX (x := i2) (y := 1) (by omega) (by omega) (fun z223 g224 g224x => ?_)
              refine tn_istore_n (L' := [(2, .int (iI z223)), (0, .ref a), (1, .ref rx1), (3, .int (iI i3))]) dX0_sameStack_99 rfl (by decide) rfl ?_
              refine tn_iload_n dX0_sameStack_100 rfl 0 rfl ?_
              refine tn_aload_n dX0_sameStack_101 rfl 1 rfl ?_
              refine tn_aload_n dX0_sameStack_102 rfl 2 rfl ?_
              obtain ⟨hk227, hl228⟩ : AR T txb 1 9 9 := ar_of (wf_60 hw0 hk3o) htxb
              have hk227i : IA T txb := by unfold IA; omega
              obtain ⟨hk231, hl232⟩ : AR T txe 1 1728 1728 := ar_of (wf_63 hw0 hk3o) htxe
              have hk231i : IA T txe := by unfold IA; omega
              obtain ⟨hk235, hl236⟩ : AR T pxe 1 1728 1728 := ar_of (wf_63 hw0 hk67o) hpxe
              have hk235i : IA T pxe := by unfold IA; omega
              refine tn_callV (M := m_X0_sameStack) (pc := 103) (ix := 74) (ci := 0) (M' := m_X0_sameNames) (As := [.ref rx1]) (rest := [.int (iI z223)]) dX0_sameStack_103 ok_X0_sameNames im_X0_sameNames se_X0_sameNames ml0_74 np_X0_sameNames rfl rfl h_a rfl (Nat.le_of_ble_eq_true rfl) (Nat.le_of_ble_eq_true rfl) rfl (k_X0_sameNames_x (d) (T := T) (σ := σ82) (a := a) (t := rx1) (to := to) (pl := pl) (txa := txa) (txb := txb) (y := y) (txe := txe) (pxe := pxe) h_a h_rx1 w90 (rc_F F91 (Or.inl (by decide)) (by decide) (rc_F F29 (Or.inl (by decide)) (by decide) (rc_F hF (Or.inl (by decide)) (by decide) (hto)))) (rc_F F91 (Or.inl (by decide)) (by decide) (rc_F F29 (Or.inl (by decide)) (by decide) (rc_F hF (Or.inl (by decide)) (by decide) (hpl)))) (rc_F F91 (Or.inl (by decide)) (by decide) (rc_F F29 (Or.inl (by decide)) (by decide) (rc_F hF (Or.inl (by decide)) (by decide) (htxa)))) (rc_F F91 (Or.inl (by decide)) (by decide) (rc_F F29 (Or.inl (by decide)) (by decide) (rc_F hF (Or.inl (by decide)) (by decide) (htxb)))) (rc_F F91 (Or.inl (by decide)) (by decide) (rc_F F29 (Or.inl (by decide)) (by decide) (rc_F hF (Or.inl (by decide)) (by decide) (hy)))) (rc_F F91 (Or.inl (by decide)) (by decide) (rc_F F29 (Or.inl (by decide)) (by decide) (rc_F hF (Or.inl (by decide)) (by decide) (htxe)))) (rc_F F91 (Or.inl (by decide)) (by decide) (rc_F F29 (Or.inl (by decide)) (by decide) (rc_F hF (Or.inl (by decide)) (by decide) (hpxe))))) (fun r237 T239 σ238 gt240 hp => ?_)
              obtain ⟨v244, rfl, rfl, w245, F246, f241, f242, f243⟩ := hp
              clear gt240
              show Tn _ _ 106 T σ238 [(2, .int (iI z223)), (0, .ref a), (1, .ref rx1), (3, .int (iI i3))] [.int (iI v244), .int (iI z223)] _
              refine tn_iand dX0_sameStack_106 ?_
              refine tn_bandX (x := z223) (y := v244) (by omega) (by omega) (fun z249 g250 g250x => ?_)
              refine tn_istore_n (L' := [(2, .int (iI z249)), (0, .ref a), (1, .ref rx1), (3, .int (iI i3))]) dX0_sameStack_107 rfl (by decide) rfl ?_
              refine tn_iinc (q0 := 3) (L' := [(3, .int (iI (i3 + 1))), (2, .int (iI z249)), (0, .ref a), (1, .ref rx1)]) dX0_sameStack_108 rfl (by decide) rfl ?_
              refine tn_goto (tgt := 25) dX0_sameStack_111 (by decide) ?_
              exact tn_sub [2, 3, 1, 0] rfl (ih _ (by omega) (z249) (i3 + 1) σ238 w245 ((((FrC.rfl.trans (FrC.sub hF (by decide))).trans (FrC.sub F29 (by decide))).trans (FrC.sub F91 (by decide))).trans (FrC.sub F246 (by decide))) (by omega) (by omega) (((hC.trans (CHX.sub f24 (by simp) (by simp) (by simp))).trans (CHX.sub f86 (by simp) (by simp) (by simp))).trans (CHX.sub f242 (by simp) (by simp) (by simp))) (SSC9.st hS (by omega) hw hC ⟨_, _, _, ⟨_, _, f24, f26, w28, Or.inr ⟨by omega, _, f86, f88, w90, Or.inr ⟨by omega, _, _, f128, f135, Or.inl ⟨rfl, by omega, f177.symm.trans (Eq.trans (by omega) f188)⟩⟩⟩⟩, f242, f243, (by omega), (by omega)⟩) (by omega) rfl)
set_option maxHeartbeats 1000000 in
set_option maxRecDepth 20000 in
theorem k_X0_sameStack_x (d : Nat) {T : CT} {σ : MS} {a : Nat} {t : Nat} {to : Nat} {pl : Nat} {txa : Nat} {txb : Nat} {txc : Nat} {txd : Nat} {txe : Nat} {y : Nat} {pxa : Nat} {pxc : Nat} {pxd : Nat} {pxe : Nat} {yy : Nat} (ha : OB T a 0) (h_t : OB T t 10) (hw : WT T σ) (hto : σ.2.1 0 a = (to : Int)) (hpl : σ.2.1 1 a = (pl : Int)) (htxa : σ.2.1 59 to = (txa : Int)) (htxb : σ.2.1 60 to = (txb : Int)) (htxc : σ.2.1 61 to = (txc : Int)) (htxd : σ.2.1 62 to = (txd : Int)) (htxe : σ.2.1 63 to = (txe : Int)) (hy : σ.2.1 55 to = (y : Int)) (hpxa : σ.2.1 59 pl = (pxa : Int)) (hpxc : σ.2.1 61 pl = (pxc : Int)) (hpxd : σ.2.1 62 pl = (pxd : Int)) (hpxe : σ.2.1 63 pl = (pxe : Int)) (hyy : σ.2.1 55 pl = (yy : Int)) : Tn (d + 6) m_X0_sameStack 0 T σ [(0, .ref a), (1, .ref t)] [] (fun ro T2 σ2 => ∃ v : Int, ro = some (.int (iI v)) ∧ T = T2 ∧ WT T2 σ2 ∧ FrC T [2, 3, 70, 71] σ σ2 ∧ (v = 0 ∨ v = 1) ∧ (CHX [(2, a), (3, a), (70, to), (71, to), (70, pl), (71, pl)] [] [] σ σ2) ∧ (SS9 T σ a to pl txa txb txc txd txe y pxa pxc pxd pxe yy v σ2)) := by
  refine tn_aload_n dX0_sameStack_0 rfl 0 rfl ?_
  have hk3 : (T to).1 = 37 := ob_of (wf_0 hw ha) hto
  have hk3o : OB T to 7 := ⟨by omega, by rw [hk3]; rfl, by omega⟩
  refine tn_getR (ci := 0) (i := 0) (n := 0) (x := to) dX0_sameStack_1 rfl lay_0 (by decide) fl0_14 ha rfl rfl (hto) ?_
  refine tn_getI (ci := 7) (i := 3) (n := 58) (t := σ.2.1 58 to) dX0_sameStack_4 rfl lay_7 (by decide) fl0_60 hk3o rfl rfl (rfl) ?_
  have g5 : ((-2147483648 : Int) ≤ σ.2.1 58 to ∧ σ.2.1 58 to ≤ 2147483647) := wf_58 hw hk3o
  refine tn_aload_n dX0_sameStack_7 rfl 0 rfl ?_
  have hk8 : (T pl).1 = 57 := ob_of (wf_1 hw ha) hpl
  have hk8o : OB T pl 7 := ⟨by omega, by rw [hk8]; rfl, by omega⟩
  refine tn_getR (ci := 0) (i := 1) (n := 1) (x := pl) dX0_sameStack_8 rfl lay_0 (by decide) fl0_20 ha rfl rfl (hpl) ?_
  refine tn_getI (ci := 7) (i := 3) (n := 58) (t := σ.2.1 58 pl) dX0_sameStack_11 rfl lay_7 (by decide) fl0_60 hk8o rfl rfl (rfl) ?_
  have g10 : ((-2147483648 : Int) ≤ σ.2.1 58 pl ∧ σ.2.1 58 pl ≤ 2147483647) := wf_58 hw hk8o
  refine tn_icmp_ne (tgt := 21) dX0_sameStack_14 (by decide) ⟨by omega, by omega⟩ ⟨by omega, by omega⟩ (fun h11 => ?_) (fun h11 => ?_)
  · refine tn_iconst dX0_sameStack_21 ?_
    refine tn_istore_n (L' := [(2, .int (iI 0)), (0, .ref a), (1, .ref t)]) dX0_sameStack_22 rfl (by decide) rfl ?_
    refine tn_iconst dX0_sameStack_23 ?_
    refine tn_istore_n (L' := [(3, .int (iI 0)), (2, .int (iI 0)), (0, .ref a), (1, .ref t)]) dX0_sameStack_24 rfl (by decide) rfl ?_
    refine tn_sub [2, 3, 1, 0] rfl (l_X0_sameStack_x_25 (d) (T := T) (σ0 := σ) (a := a) (rx1 := t) (to := to) (pl := pl) (txa := txa) (txb := txb) (txc := txc) (txd := txd) (txe := txe) (y := y) (pxa := pxa) (pxc := pxc) (pxd := pxd) (pxe := pxe) (yy := yy) (s0 := 0) ha h_t hw (hto) (hpl) (htxa) (htxb) (htxc) (htxd) (htxe) (hy) (hpxa) (hpxc) (hpxd) (hpxe) (hyy) (fun i212 i313 σ14 w17 F18 r19 r20 f21 f22 f23 f24 => ?_) _ (0) (0) σ hw FrC.rfl (by omega) (by omega) CHX.rfl ⟨rfl, rfl⟩ (by omega) rfl)
    show Tn _ _ 114 T σ14 [(0, .ref a), (1, .ref t), (2, .int (iI i212)), (3, .int (iI i313))] [] _
    refine tn_iload_n dX0_sameStack_114 rfl 2 rfl ?_
    exact tn_zret (v := i212) rfl (by omega) dX0_sameStack_115 ⟨_, rfl, rfl, w17, (FrC.rfl.trans (FrC.sub F18 (by decide))), by omega, (CHX.rfl.trans (CHX.sub f21 (by simp) (by simp) (by simp))), ⟨_, Or.inr ⟨rfl, by omega⟩, f24⟩⟩
  · refine tn_iconst dX0_sameStack_17 ?_
    refine tn_goto (tgt := 22) dX0_sameStack_18 (by decide) ?_
    refine tn_istore_n (L' := [(2, .int (iI 1)), (0, .ref a), (1, .ref t)]) dX0_sameStack_22 rfl (by decide) rfl ?_
    refine tn_iconst dX0_sameStack_23 ?_
    refine tn_istore_n (L' := [(3, .int (iI 0)), (2, .int (iI 1)), (0, .ref a), (1, .ref t)]) dX0_sameStack_24 rfl (by decide) rfl ?_
    refine tn_sub [2, 3, 1, 0] rfl (l_X0_sameStack_x_25 (d) (T := T) (σ0 := σ) (a := a) (rx1 := t) (to := to) (pl := pl) (txa := txa) (txb := txb) (txc := txc) (txd := txd) (txe := txe) (y := y) (pxa := pxa) (pxc := pxc) (pxd := pxd) (pxe := pxe) (yy := yy) (s0 := 1) ha h_t hw (hto) (hpl) (htxa) (htxb) (htxc) (htxd) (htxe) (hy) (hpxa) (hpxc) (hpxd) (hpxe) (hyy) (fun i225 i326 σ27 w30 F31 r32 r33 f34 f35 f36 f37 => ?_) _ (1) (0) σ hw FrC.rfl (by omega) (by omega) CHX.rfl ⟨rfl, rfl⟩ (by omega) rfl)
    show Tn _ _ 114 T σ27 [(0, .ref a), (1, .ref t), (2, .int (iI i225)), (3, .int (iI i326))] [] _
    refine tn_iload_n dX0_sameStack_114 rfl 2 rfl ?_
    exact tn_zret (v := i225) rfl (by omega) dX0_sameStack_115 ⟨_, rfl, rfl, w30, (FrC.rfl.trans (FrC.sub F31 (by decide))), by omega, (CHX.rfl.trans (CHX.sub f34 (by simp) (by simp) (by simp))), ⟨_, Or.inl ⟨rfl, by omega⟩, f37⟩⟩
end
