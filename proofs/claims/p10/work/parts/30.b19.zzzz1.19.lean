set_option maxHeartbeats 1000000 in
set_option maxRecDepth 20000 in
theorem l_X7_advance_j_8 (d : Nat) {T : CT} {σ0 : MS} {a : Nat} {c1 : Int} {c2 : Int} {c3 : Int} {tg : Int} {xa : Nat} {xb : Nat} {xc : Nat} {xd : Nat} {xe : Nat} {xf : Nat} {y : Nat} {post : Option Value → CT → MS → Prop} (h_a : OB T a 7) (t_a : (T a).1 = 37) (r_c1 : -2147483648 ≤ c1 ∧ c1 ≤ 2147483647) (r_c2 : -2147483648 ≤ c2 ∧ c2 ≤ 20000) (r_c3 : -2147483648 ≤ c3 ∧ c3 ≤ 2147483647) (hw0 : WT T σ0) (hxa : σ0.2.1 59 a = (xa : Int)) (hxb : σ0.2.1 60 a = (xb : Int)) (hxc : σ0.2.1 61 a = (xc : Int)) (hxd : σ0.2.1 62 a = (xd : Int)) (hxe : σ0.2.1 63 a = (xe : Int)) (hxf : σ0.2.1 64 a = (xf : Int)) (hy : σ0.2.1 55 a = (y : Int)) (hx_50 : ∀ (i4 : Int) (σ : MS) , (WT T σ) → (FrC T [56, 57, 58, 65, 66, 67, 68, 69, 515] σ0 σ) → (0 ≤ i4 ∧ i4 ≤ 20000) → (CHX [(56, a), (57, a), (58, a), (65, a), (66, a), (67, a), (68, a), (69, a), (70, a), (71, a)] [xa, xb, xc, xd, xe, xf] [] σ0 σ) → (σ.2.1 57 a ≤ tg + i4 + 1 ∧ tg ≤ 11164000) → (True) → (True) → (∃ τ1 : MS, JCN T a xa xb xc xd xe xf y c1 c3 i4.toNat σ0 τ1 ∧ CHX (RNL a) [xa, xb, xc, xd, xe, xf] [] σ0 τ1 ∧ τ1.2.1 56 a = 1 ∧ ∃ u : Int, JST T τ1 a xa xb xc xd xe xf y u σ ∧ σ.2.1 56 a = 1 ∧ u = 1 ∧ cST c1 c3 (σ.2.1 58 a)) → (i4 < c2) → Tn (d + 6) m_X7_advance 50 T σ [(0, .ref a), (1, .int (iI c1)), (2, .int (iI c2)), (3, .int (iI c3)), (4, .int (iI i4))] [] post) (hx_58 : ∀ (i4 : Int) (σ : MS) , (WT T σ) → (FrC T [56, 57, 58, 65, 66, 67, 68, 69, 515] σ0 σ) → (0 ≤ i4 ∧ i4 ≤ 20000) → (CHX [(56, a), (57, a), (58, a), (65, a), (66, a), (67, a), (68, a), (69, a), (70, a), (71, a)] [xa, xb, xc, xd, xe, xf] [] σ0 σ) → (σ.2.1 57 a ≤ tg + i4 + 1 ∧ tg ≤ 11164000) → (True) → (True) → (JCN T a xa xb xc xd xe xf y c1 c3 i4.toNat σ0 σ ∧ CHX (RNL a) [xa, xb, xc, xd, xe, xf] [] σ0 σ) → (¬ (i4 < c2 ∧ σ.2.1 56 a = 1)) → (i4 ≤ 0 ∨ i4 ≤ c2) → Tn (d + 6) m_X7_advance 58 T σ [(0, .ref a), (1, .int (iI c1)), (2, .int (iI c2)), (3, .int (iI c3)), (4, .int (iI i4))] [] post) : ∀ (nq9 : Nat) (i4 : Int) (σ : MS) , (WT T σ) → (FrC T [56, 57, 58, 65, 66, 67, 68, 69, 515] σ0 σ) → (0 ≤ i4 ∧ i4 ≤ 20000) → (CHX [(56, a), (57, a), (58, a), (65, a), (66, a), (67, a), (68, a), (69, a), (70, a), (71, a)] [xa, xb, xc, xd, xe, xf] [] σ0 σ) → (σ.2.1 57 a ≤ tg + i4 ∧ tg ≤ 11164000) → (JCN T a xa xb xc xd xe xf y c1 c3 i4.toNat σ0 σ) → (i4 ≤ 0 ∨ i4 ≤ c2) → (2147483700 - i4).toNat = nq9 → Tn (d + 6) m_X7_advance 8 T σ [(0, .ref a), (1, .int (iI c1)), (2, .int (iI c2)), (3, .int (iI c3)), (4, .int (iI i4))] [] post := by
  intro nq9
  induction nq9 using Nat.strongRecOn with
  | _ nq9 ih =>
    intro i4 σ hw hF r_i4 hC h0 hJ hI hm
    refine tn_iload dX7_advance_8 4 rfl ?_
    refine tn_iload_n dX7_advance_10 rfl 2 rfl ?_
    refine tn_icmp_ge (tgt := 58) dX7_advance_11 (by decide) ⟨by omega, by omega⟩ ⟨by omega, by omega⟩ (fun h1 => ?_) (fun h1 => ?_)
    · exact tn_sub [0, 1, 2, 3, 4] rfl (hx_58 (i4) σ hw (FrC.rfl.trans (FrC.sub hF (by decide))) (by omega) hC (by omega) trivial trivial ⟨hJ, hC⟩ (by omega) (by omega))
    · refine tn_aload_n dX7_advance_14 rfl 0 rfl ?_
      refine tn_getI (ci := 7) (i := 1) (n := 56) (t := σ.2.1 56 a) dX7_advance_15 rfl lay_7 (by decide) fl7_34 h_a rfl rfl (rfl) ?_
      have g2 : ((-2147483648 : Int) ≤ σ.2.1 56 a ∧ σ.2.1 56 a ≤ 2147483647) := wf_56 hw h_a
      refine tn_iconst dX7_advance_18 ?_
      refine tn_icmp_ne (tgt := 58) dX7_advance_19 (by decide) ⟨by omega, by omega⟩ ⟨by decide, by decide⟩ (fun h3 => ?_) (fun h3 => ?_)
      · exact tn_sub [0, 1, 2, 3, 4] rfl (hx_58 (i4) σ hw (FrC.rfl.trans (FrC.sub hF (by decide))) (by omega) hC (by omega) trivial trivial ⟨hJ, hC⟩ (by omega) (by omega))
      · refine tn_aload_n dX7_advance_22 rfl 0 rfl ?_
        obtain ⟨hk6, hl7⟩ : AR T xa 15 9 9 := ar_of (wf_59 hw0 h_a) hxa
        have hk6i : IA T xa := by unfold IA; omega
        obtain ⟨hk10, hl11⟩ : AR T xb 1 9 9 := ar_of (wf_60 hw0 h_a) hxb
        have hk10i : IA T xb := by unfold IA; omega
        obtain ⟨hl15, hk14a, hk14b⟩ := ex_at (wf_61 hw0 h_a) hxc
        have hk14 : (T xc).1 = 1 := hk14b (by omega)
        clear hk14a hk14b
        have hk14i : IA T xc := by unfold IA; omega
        obtain ⟨hk18, hl19⟩ : AR T xd 1 108 108 := ar_of (wf_62 hw0 h_a) hxd
        have hk18i : IA T xd := by unfold IA; omega
        obtain ⟨hk22, hl23⟩ : AR T xe 1 1728 1728 := ar_of (wf_63 hw0 h_a) hxe
        have hk22i : IA T xe := by unfold IA; omega
        obtain ⟨hk26, hl27⟩ : AR T xf 1 200 200 := ar_of (wf_64 hw0 h_a) hxf
        have hk26i : IA T xf := by unfold IA; omega
        obtain ⟨hl31, hk30a, hk30b⟩ := ex_at (wf_55 hw0 h_a) hy
        have hk30i : (T y).1 = 4 ∨ (T y).1 = 5 := by omega
        have hk30c : RROW T a y := ⟨hk30a, hk30b⟩
        clear hk30a hk30b
        refine tn_callV (M := m_X7_advance) (pc := 23) (ix := 95) (ci := 7) (M' := m_X7_step) (As := []) (rest := []) dX7_advance_23 ok_X7_step im_X7_step se_X7_step ml7_95 np_X7_step rfl rfl h_a rfl (Nat.le_of_ble_eq_true rfl) (Nat.le_of_ble_eq_true rfl) rfl (k_X7_step_j (d) (T := T) (σ := σ) (a := a) (xa := xa) (xb := xb) (xc := xc) (xd := xd) (xe := xe) (xf := xf) (y := y) h_a t_a hw (rc_F hF (Or.inl (by decide)) (by decide) (hxa)) (rc_F hF (Or.inl (by decide)) (by decide) (hxb)) (rc_F hF (Or.inl (by decide)) (by decide) (hxc)) (rc_F hF (Or.inl (by decide)) (by decide) (hxd)) (rc_F hF (Or.inl (by decide)) (by decide) (hxe)) (rc_F hF (Or.inl (by decide)) (by decide) (hxf)) (rc_F hF (Or.inl (by decide)) (by decide) (hy)) (by rw [show σ.2.1 57 a = σ.2.1 57 a from rfl]; omega)) (fun r32 T34 σ33 gt35 hp => ?_)
        obtain ⟨v41, rfl, rfl, w42, F43, f36, f37, f38, f39, f40⟩ := hp
        clear gt35
        show Tn _ _ 26 T σ33 [(0, .ref a), (1, .int (iI c1)), (2, .int (iI c2)), (3, .int (iI c3)), (4, .int (iI i4))] [.int (iI v41)] _
        refine tn_istore (L' := [(5, .int (iI v41)), (0, .ref a), (1, .int (iI c1)), (2, .int (iI c2)), (3, .int (iI c3)), (4, .int (iI i4))]) dX7_advance_26 (by decide) rfl ?_
        refine tn_aload_n dX7_advance_28 rfl 1 rfl ?_
        refine tn_getI (ci := 7) (i := 1) (n := 56) (t := σ33.2.1 56 a) dX7_advance_29 rfl lay_7 (by decide) fl7_34 h_a rfl rfl (rfl) ?_
        have g44 : ((-2147483648 : Int) ≤ σ33.2.1 56 a ∧ σ33.2.1 56 a ≤ 2147483647) := wf_56 w42 h_a
        refine tn_iconst dX7_advance_32 ?_
        refine tn_icmp_ne (tgt := 52) dX7_advance_33 (by decide) ⟨by omega, by omega⟩ ⟨by decide, by decide⟩ (fun h45 => ?_) (fun h45 => ?_)
        · refine tn_iinc (q0 := 5) (L' := [(4, .int (iI (i4 + 1))), (5, .int (iI v41)), (0, .ref a), (1, .int (iI c1)), (2, .int (iI c2)), (3, .int (iI c3))]) dX7_advance_52 rfl (by decide) rfl ?_
          refine tn_goto (tgt := 8) dX7_advance_55 (by decide) ?_
          exact tn_sub [2, 3, 4, 5, 0] rfl (ih _ (by omega) (i4 + 1) σ33 w42 ((FrC.rfl.trans (FrC.sub hF (by decide))).trans (FrC.sub F43 (by decide))) (by omega) (hC.trans (CHX.sub f37 (by simp) (by simp) (by simp))) (by omega) (JCN.s hJ (by omega) hC (by omega) f39 (fun z => by omega)) (by omega) rfl)
        · refine tn_iload dX7_advance_36 0 rfl ?_
          refine tn_if_eq (tgt := 52) dX7_advance_38 (by decide) ⟨by omega, by omega⟩ (fun h46 => ?_) (fun h46 => ?_)
          · refine tn_iinc (q0 := 5) (L' := [(4, .int (iI (i4 + 1))), (5, .int (iI v41)), (0, .ref a), (1, .int (iI c1)), (2, .int (iI c2)), (3, .int (iI c3))]) dX7_advance_52 rfl (by decide) rfl ?_
            refine tn_goto (tgt := 8) dX7_advance_55 (by decide) ?_
            exact tn_sub [2, 3, 4, 5, 0] rfl (ih _ (by omega) (i4 + 1) σ33 w42 ((FrC.rfl.trans (FrC.sub hF (by decide))).trans (FrC.sub F43 (by decide))) (by omega) (hC.trans (CHX.sub f37 (by simp) (by simp) (by simp))) (by omega) (JCN.s hJ (by omega) hC (by omega) f39 (fun z => by omega)) (by omega) rfl)
          · refine tn_aload_n dX7_advance_41 rfl 1 rfl ?_
            refine tn_iload_n dX7_advance_42 rfl 2 rfl ?_
            refine tn_iload_n dX7_advance_43 rfl 4 rfl ?_
            refine tn_callV (M := m_X7_advance) (pc := 44) (ix := 99) (ci := 7) (M' := m_X7_stops) (As := [.int (iI c1), .int (iI c3)]) (rest := []) dX7_advance_44 ok_X7_stops im_X7_stops se_X7_stops ml7_99 np_X7_stops rfl rfl h_a rfl (Nat.le_of_ble_eq_true rfl) (Nat.le_of_ble_eq_true rfl) rfl (k_X7_stops_j (d + 4) (T := T) (σ := σ33) (a := a) (p1 := c1) (p2 := c3) h_a (by omega) (by omega) w42 ) (fun r47 T49 σ48 gt50 hp => ?_)
            obtain ⟨v53, rfl, rfl, rfl, f51, f52⟩ := hp
            clear gt50
            show Tn _ _ 47 T σ33 [(5, .int (iI v41)), (0, .ref a), (1, .int (iI c1)), (2, .int (iI c2)), (3, .int (iI c3)), (4, .int (iI i4))] [.int (iI v53)] _
            refine tn_if_eq (tgt := 52) dX7_advance_47 (by decide) ⟨by omega, by omega⟩ (fun h54 => ?_) (fun h54 => ?_)
            · refine tn_iinc (q0 := 5) (L' := [(4, .int (iI (i4 + 1))), (5, .int (iI v41)), (0, .ref a), (1, .int (iI c1)), (2, .int (iI c2)), (3, .int (iI c3))]) dX7_advance_52 rfl (by decide) rfl ?_
              refine tn_goto (tgt := 8) dX7_advance_55 (by decide) ?_
              exact tn_sub [2, 3, 4, 5, 0] rfl (ih _ (by omega) (i4 + 1) σ33 w42 ((FrC.rfl.trans (FrC.sub hF (by decide))).trans (FrC.sub F43 (by decide))) (by omega) (hC.trans (CHX.sub f37 (by simp) (by simp) (by simp))) (by omega) (JCN.s hJ (by omega) hC (by omega) f39 (fun z => f52.elim (fun q => by omega) (fun q => q.2 z.2.2))) (by omega) rfl)
            · exact tn_sub [1, 2, 3, 4, 5] rfl (hx_50 (i4) σ33 w42 ((FrC.rfl.trans (FrC.sub hF (by decide))).trans (FrC.sub F43 (by decide))) (by omega) (hC.trans (CHX.sub f37 (by simp) (by simp) (by simp))) (by omega) trivial trivial ⟨σ, hJ, hC, by omega, _, f39, by omega, by omega, (f52.resolve_right (fun q => by omega)).2⟩ (by omega))
set_option maxHeartbeats 1000000 in
set_option maxRecDepth 20000 in
theorem k_X7_advance_j (d : Nat) {T : CT} {σ : MS} {a : Nat} {w : Int} {n : Int} {xa : Nat} {xb : Nat} {xc : Nat} {xd : Nat} {xe : Nat} {xf : Nat} {y : Nat} (ha : OB T a 7) (hta : (T a).1 = 37) (h_w : -2147483648 ≤ w ∧ w ≤ 2147483647) (h_n : -2147483648 ≤ n ∧ n ≤ 2147483647) (hw : WT T σ) (hxa : σ.2.1 59 a = (xa : Int)) (hxb : σ.2.1 60 a = (xb : Int)) (hxc : σ.2.1 61 a = (xc : Int)) (hxd : σ.2.1 62 a = (xd : Int)) (hxe : σ.2.1 63 a = (xe : Int)) (hxf : σ.2.1 64 a = (xf : Int)) (hy : σ.2.1 55 a = (y : Int)) (hn2 : n ≤ 20000) (h8 : σ.2.1 57 a ≤ 11164000) : Tn (d + 6) m_X7_advance 0 T σ [(0, .ref a), (1, .int (iI w)), (2, .int (iI n))] [] (fun ro T2 σ2 => ∃ v : Int, ro = some (.int (iI v)) ∧ T = T2 ∧ WT T2 σ2 ∧ FrC T [56, 57, 58, 65, 66, 67, 68, 69, 515] σ σ2 ∧ (-2147483648 ≤ v ∧ v ≤ 2147483647) ∧ (CHX [(56, a), (57, a), (58, a), (65, a), (66, a), (67, a), (68, a), (69, a), (70, a), (71, a)] [xa, xb, xc, xd, xe, xf] [] σ σ2) ∧ (σ2.2.1 57 a ≤ σ.2.1 57 a + 20001) ∧ (JAD T σ a xa xb xc xd xe xf y w n v σ2)) := by
  refine tn_aload_n dX7_advance_0 rfl 0 rfl ?_
  refine tn_getI (ci := 7) (i := 3) (n := 58) (t := σ.2.1 58 a) dX7_advance_1 rfl lay_7 (by decide) fl7_38 ha rfl rfl (rfl) ?_
  have g1 : ((-2147483648 : Int) ≤ σ.2.1 58 a ∧ σ.2.1 58 a ≤ 2147483647) := wf_58 hw ha
  refine tn_istore_n (L' := [(3, .int (iI (σ.2.1 58 a))), (0, .ref a), (1, .int (iI w)), (2, .int (iI n))]) dX7_advance_4 rfl (by decide) rfl ?_
  refine tn_iconst dX7_advance_5 ?_
  refine tn_istore (L' := [(4, .int (iI 0)), (3, .int (iI (σ.2.1 58 a))), (0, .ref a), (1, .int (iI w)), (2, .int (iI n))]) dX7_advance_6 (by decide) rfl ?_
  refine tn_sub [2, 3, 4, 1, 0] rfl (l_X7_advance_j_8 (d) (T := T) (σ0 := σ) (a := a) (c1 := w) (c2 := n) (c3 := σ.2.1 58 a) (xa := xa) (xb := xb) (xc := xc) (xd := xd) (xe := xe) (xf := xf) (y := y) (tg := σ.2.1 57 a) ha hta (by omega) (by omega) (by omega) hw (hxa) (hxb) (hxc) (hxd) (hxe) (hxf) (hy) (fun i42 σ3 w6 F7 r8 f9 f10 f11 f12 f13 f14 => ?_) (fun i415 σ16 w19 F20 r21 f22 f23 f24 f25 f26 f27 f28 => ?_) _ (0) σ hw FrC.rfl (by omega) CHX.rfl (by omega) rfl (by omega) rfl)
  · show Tn _ _ 50 T σ3 [(0, .ref a), (1, .int (iI w)), (2, .int (iI n)), (3, .int (iI (σ.2.1 58 a))), (4, .int (iI i42))] [] _
    refine tn_iconst dX7_advance_50 ?_
    have q29 : σ3.2.1 57 a = σ3.2.1 57 a := rfl
    exact tn_iret rfl dX7_advance_51 ⟨_, rfl, rfl, w6, (FrC.rfl.trans (FrC.sub F7 (by decide))), by omega, (CHX.rfl.trans (CHX.sub f9 (by simp) (by simp) (by simp))), by omega, f13.elim (fun τ1 q => ⟨_, τ1, q.1, q.2.1, Or.inl ⟨by omega, q.2.2.1, rfl, q.2.2.2⟩⟩)⟩
  · show Tn _ _ 58 T σ16 [(0, .ref a), (1, .int (iI w)), (2, .int (iI n)), (3, .int (iI (σ.2.1 58 a))), (4, .int (iI i415))] [] _
    refine tn_aload_n dX7_advance_58 rfl 0 rfl ?_
    refine tn_getI (ci := 7) (i := 1) (n := 56) (t := σ16.2.1 56 a) dX7_advance_59 rfl lay_7 (by decide) fl7_34 ha rfl rfl (rfl) ?_
    have g30 : ((-2147483648 : Int) ≤ σ16.2.1 56 a ∧ σ16.2.1 56 a ≤ 2147483647) := wf_56 w19 ha
    refine tn_iconst dX7_advance_62 ?_
    refine tn_icmp_ne (tgt := 68) dX7_advance_63 (by decide) ⟨by omega, by omega⟩ ⟨by decide, by decide⟩ (fun h31 => ?_) (fun h31 => ?_)
    · refine tn_aload_n dX7_advance_68 rfl 0 rfl ?_
      refine tn_getI (ci := 7) (i := 1) (n := 56) (t := σ16.2.1 56 a) dX7_advance_69 rfl lay_7 (by decide) fl7_34 ha rfl rfl (rfl) ?_
      refine tn_iconst dX7_advance_72 ?_
      refine tn_icmp_ne (tgt := 80) dX7_advance_73 (by decide) ⟨by omega, by omega⟩ ⟨by decide, by decide⟩ (fun h32 => ?_) (fun h32 => ?_)
      · refine tn_iconst dX7_advance_80 ?_
        have q33 : σ16.2.1 57 a = σ16.2.1 57 a := rfl
        exact tn_iret rfl dX7_advance_81 ⟨_, rfl, rfl, w19, (FrC.rfl.trans (FrC.sub F20 (by decide))), by omega, (CHX.rfl.trans (CHX.sub f22 (by simp) (by simp) (by simp))), by omega, ⟨_, _, f26.1, f26.2, Or.inr ⟨by omega, by omega, rfl, by omega⟩⟩⟩
      · refine tn_iconst dX7_advance_76 ?_
        refine tn_goto (tgt := 81) dX7_advance_77 (by decide) ?_
        have q34 : σ16.2.1 57 a = σ16.2.1 57 a := rfl
        exact tn_iret rfl dX7_advance_81 ⟨_, rfl, rfl, w19, (FrC.rfl.trans (FrC.sub F20 (by decide))), by omega, (CHX.rfl.trans (CHX.sub f22 (by simp) (by simp) (by simp))), by omega, ⟨_, _, f26.1, f26.2, Or.inr ⟨by omega, by omega, rfl, by omega⟩⟩⟩
    · refine tn_iconst dX7_advance_66 ?_
      have q35 : σ16.2.1 57 a = σ16.2.1 57 a := rfl
      exact tn_iret rfl dX7_advance_67 ⟨_, rfl, rfl, w19, (FrC.rfl.trans (FrC.sub F20 (by decide))), by omega, (CHX.rfl.trans (CHX.sub f22 (by simp) (by simp) (by simp))), by omega, ⟨_, _, f26.1, f26.2, Or.inr ⟨by omega, by omega, rfl, by omega⟩⟩⟩
