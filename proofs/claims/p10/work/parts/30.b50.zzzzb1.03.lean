set_option maxHeartbeats 1000000 in
set_option maxRecDepth 20000 in
theorem l_X7_find_j_37 (d : Nat) {T : CT} {σ : MS} {a : Nat} {V0 : Int × Int} {xa : Nat} {xc : Nat} {y : Nat} {post : Option Value → CT → MS → Prop} (h_a : OB T a 7) (hw : WT T σ) (hxa : σ.2.1 59 a = (xa : Int)) (hxc : σ.2.1 61 a = (xc : Int)) (hy : σ.2.1 55 a = (y : Int)) (hx_54 : ∀ (i2 : Int) (i3 : Int) , (-2147483648 ≤ i2 ∧ i2 ≤ 2147483647) → (-1 ≤ i3 ∧ i3 ≤ 11184800) → (True) → (V0 = (i3, i2)) → (0 ≤ i3) → Tn (d + 4) m_X7_find 54 T σ [(0, .ref a), (2, .int (iI i2)), (3, .int (iI i3))] [] post) (hx_100 : ∀ (i2 : Int) (i3 : Int) , (-2147483648 ≤ i2 ∧ i2 ≤ 2147483647) → (-1 ≤ i3 ∧ i3 ≤ 11184800) → (True) → (V0.1 < 0) → Tn (d + 4) m_X7_find 100 T σ [(0, .ref a), (2, .int (iI i2)), (3, .int (iI i3))] [] post) : ∀ (nq9 : Nat) (i2 : Int) (i3 : Int) , (-2147483648 ≤ i2 ∧ i2 ≤ 2147483647) → (-1 ≤ i3 ∧ i3 ≤ 11184800) → (jFD (jCV T σ xa xc y) (i3 + 1).toNat i3 i2 = V0) → (i3 + 20).toNat = nq9 → Tn (d + 4) m_X7_find 37 T σ [(0, .ref a), (2, .int (iI i2)), (3, .int (iI i3))] [] post := by
  intro nq9
  induction nq9 using Nat.strongRecOn with
  | _ nq9 ih =>
    intro i2 i3 r_i2 r_i3 hL hm
    refine tn_iload_n dX7_find_37 rfl 2 rfl ?_
    refine tn_if_lt (tgt := 100) dX7_find_38 (by decide) ⟨by omega, by omega⟩ (fun h1 => ?_) (fun h1 => ?_)
    · exact tn_sub [0, 1, 2] rfl (hx_100 (i2) (i3) (by omega) (by omega) trivial (jFD_n hL (by omega)))
    · refine tn_aload_n dX7_find_41 rfl 0 rfl ?_
      refine tn_iload_n dX7_find_42 rfl 2 rfl ?_
      obtain ⟨hk4, hl5⟩ : AR T xa 15 9 9 := ar_of (wf_59 hw h_a) hxa
      have hk4i : IA T xa := by unfold IA; omega
      obtain ⟨hl9, hk8a, hk8b⟩ := ex_at (wf_61 hw h_a) hxc
      have hk8i : IA T xc := by unfold IA; omega
      have hk8n : NH T xc := by unfold NH HT; omega
      clear hk8a hk8b
      obtain ⟨hl13, hk12a, hk12b⟩ := ex_at (wf_55 hw h_a) hy
      have hk12i : (T y).1 = 4 ∨ (T y).1 = 5 := by omega
      have hk12c : RROW T a y := ⟨hk12a, hk12b⟩
      clear hk12a hk12b
      refine tn_callV (M := m_X7_find) (pc := 43) (ix := 140) (ci := 7) (M' := m_X7_chainOf) (As := [.int (iI i3)]) (rest := []) dX7_find_43 ok_X7_chainOf im_X7_chainOf se_X7_chainOf ml7_140 np_X7_chainOf rfl rfl h_a rfl (Nat.le_of_ble_eq_true rfl) (Nat.le_of_ble_eq_true rfl) rfl (k_X7_chainOf_j (d + 1) (T := T) (σ := σ) (a := a) (p1 := i3) (xa := xa) (xc := xc) (y := y) h_a (by omega) hw (hxa) (hxc) (hy)) (fun r14 T16 σ15 gt17 hp => ?_)
      obtain ⟨v20, rfl, rfl, rfl, f18, f19⟩ := hp
      clear gt17
      show Tn _ _ 46 T σ [(0, .ref a), (2, .int (iI i2)), (3, .int (iI i3))] [.int (iI v20)] _
      have hcr := jCV_rng (T := T) (σ := σ) (xa := xa) (xc := xc) (y := y) (c := i3)
      rw [← f19] at hcr
      refine tn_istore (L' := [(4, .int (iI v20)), (0, .ref a), (2, .int (iI i2)), (3, .int (iI i3))]) dX7_find_46 (by decide) rfl ?_
      refine tn_iload_n dX7_find_48 rfl 2 rfl ?_
      refine tn_iload dX7_find_49 0 rfl ?_
      refine tn_icmp_ge (tgt := 89) dX7_find_51 (by decide) ⟨by omega, by omega⟩ ⟨by omega, by omega⟩ (fun h21 => ?_) (fun h21 => ?_)
      · refine tn_iload_n dX7_find_89 rfl 2 rfl ?_
        refine tn_iload dX7_find_90 0 rfl ?_
        refine tn_isub dX7_find_92 ?_
        refine tn_istore_n (L' := [(2, .int (iI (i2 - v20))), (4, .int (iI v20)), (0, .ref a), (3, .int (iI i3))]) dX7_find_93 rfl (by decide) rfl ?_
        refine tn_iinc (q0 := 3) (L' := [(3, .int (iI (i3 + (-1)))), (2, .int (iI (i2 - v20))), (4, .int (iI v20)), (0, .ref a)]) dX7_find_94 rfl (by decide) rfl ?_
        refine tn_goto (tgt := 37) dX7_find_97 (by decide) ?_
        exact tn_sub [3, 1, 0] rfl (ih _ (by omega) (i2 - v20) (i3 + (-1)) (by omega) (by omega) (jFD_s hL (by omega) f19 (by omega)) rfl)
      · exact tn_sub [1, 2, 3] rfl (hx_54 (i2) (i3) (by omega) (by omega) trivial (jFD_e hL (by omega) f19 (by omega)) (by omega))
set_option maxHeartbeats 1000000 in
set_option maxRecDepth 20000 in
theorem k_X7_find_j (d : Nat) {T : CT} {σ : MS} {a : Nat} {k : Int} {xa : Nat} {xc : Nat} {y : Nat} (ha : OB T a 7) (h_k : -2147483648 ≤ k ∧ k ≤ 2147483647) (hw : WT T σ) (hxa : σ.2.1 59 a = (xa : Int)) (hxc : σ.2.1 61 a = (xc : Int)) (hy : σ.2.1 55 a = (y : Int)) : Tn (d + 4) m_X7_find 0 T σ [(0, .ref a), (1, .int (iI k))] [] (fun ro T2 σ2 => ∃ v : Int, ro = some (.int (iI v)) ∧ T = T2 ∧ WT T2 σ2 ∧ FrC T [70, 71] σ σ2 ∧ (v = 0 ∨ v = 1) ∧ (CHX [(70, a), (71, a)] [] [] σ σ2) ∧ (v = 1 → 0 ≤ FRV T σ2 a ∧ FRV T σ2 a ≤ 5) ∧ (JFN T σ a xa xc y k v σ2)) := by
  refine tn_iload_n dX7_find_0 rfl 1 rfl ?_
  refine tn_if_lt (tgt := 28) dX7_find_1 (by decide) ⟨by omega, by omega⟩ (fun h1 => ?_) (fun h1 => ?_)
  · refine tn_iconst dX7_find_28 ?_
    exact tn_zret (v := 0) rfl (by decide) dX7_find_29 ⟨_, rfl, rfl, hw, FrC.rfl, by omega, CHX.rfl, fun q => absurd q (by decide), Or.inl ⟨rfl, Or.inl (by omega)⟩⟩
  · refine tn_iload_n dX7_find_4 rfl 1 rfl ?_
    refine tn_aload_n dX7_find_5 rfl 0 rfl ?_
    refine tn_getI (ci := 7) (i := 3) (n := 58) (t := σ.2.1 58 a) dX7_find_6 rfl lay_7 (by decide) fl7_38 ha rfl rfl (rfl) ?_
    have g2 : ((-2147483648 : Int) ≤ σ.2.1 58 a ∧ σ.2.1 58 a ≤ 2147483647) := wf_58 hw ha
    refine tn_icmp_ge (tgt := 28) dX7_find_9 (by decide) ⟨by omega, by omega⟩ ⟨by omega, by omega⟩ (fun h3 => ?_) (fun h3 => ?_)
    · refine tn_iconst dX7_find_28 ?_
      exact tn_zret (v := 0) rfl (by decide) dX7_find_29 ⟨_, rfl, rfl, hw, FrC.rfl, by omega, CHX.rfl, fun q => absurd q (by decide), Or.inl ⟨rfl, Or.inl (by omega)⟩⟩
    · refine tn_aload_n dX7_find_12 rfl 0 rfl ?_
      refine tn_getI (ci := 7) (i := 1) (n := 56) (t := σ.2.1 56 a) dX7_find_13 rfl lay_7 (by decide) fl7_34 ha rfl rfl (rfl) ?_
      have g4 : ((-2147483648 : Int) ≤ σ.2.1 56 a ∧ σ.2.1 56 a ≤ 2147483647) := wf_56 hw ha
      refine tn_iconst dX7_find_16 ?_
      refine tn_icmp_eq (tgt := 30) dX7_find_17 (by decide) ⟨by omega, by omega⟩ ⟨by decide, by decide⟩ (fun h5 => ?_) (fun h5 => ?_)
      · refine tn_iload_n dX7_find_30 rfl 1 rfl ?_
        refine tn_istore_n (L' := [(2, .int (iI k)), (0, .ref a), (1, .int (iI k))]) dX7_find_31 rfl (by decide) rfl ?_
        refine tn_aload_n dX7_find_32 rfl 1 rfl ?_
        refine tn_getI (ci := 7) (i := 2) (n := 57) (t := σ.2.1 57 a) dX7_find_33 rfl lay_7 (by decide) fl7_65 ha rfl rfl (rfl) ?_
        have g6 : ((0 : Int) ≤ σ.2.1 57 a ∧ σ.2.1 57 a ≤ 11184800) ∧ ((T a).1 = 57 → σ.2.1 57 a ≤ 8) := wf_57 hw ha
        have g6x := g6.2
        replace g6 := g6.1
        clear g6x
        refine tn_istore_n (L' := [(3, .int (iI (σ.2.1 57 a))), (2, .int (iI k)), (0, .ref a), (1, .int (iI k))]) dX7_find_36 rfl (by decide) rfl ?_
        refine tn_sub [2, 1, 0] rfl (l_X7_find_j_37 (d) (T := T) (σ := σ) (a := a) (xa := xa) (xc := xc) (y := y) (V0 := (jFD (jCV T σ xa xc y) (σ.2.1 57 a + 1).toNat (σ.2.1 57 a) k)) ha hw (hxa) (hxc) (hy) (fun i27 i38 r14 r15 f16 f17 f18 => ?_) (fun i219 i320 r26 r27 f28 f29 => ?_) _ (k) (σ.2.1 57 a) (by omega) (by omega) rfl rfl)
        · show Tn _ _ 54 T σ [(0, .ref a), (2, .int (iI i27)), (3, .int (iI i38))] [] _
          refine tn_aload_n dX7_find_54 rfl 0 rfl ?_
          refine tn_iload_n dX7_find_55 rfl 2 rfl ?_
          refine tn_putV (ci := 7) (i := 15) (n := 70) (r := false) (v := i38) tyX7 tyX7_ok nmX7 dX7_find_56 rfl lay_7 (by decide) fl7_143 rfl (tyX7_ok 15 (by decide)) rfl rfl rfl ha rfl rfl ?_
          refine tn_aload_n dX7_find_59 rfl 0 rfl ?_
          refine tn_aload_n dX7_find_60 rfl 0 rfl ?_
          obtain ⟨hl33, hk32a, hk32b⟩ := ex_at (wf_61 hw ha) hxc
          have hk32i : IA T xc := by unfold IA; omega
          have hk32n : NH T xc := by unfold NH HT; omega
          clear hk32a hk32b
          refine tn_getR (ci := 7) (i := 6) (n := 61) (x := xc) dX7_find_61 rfl lay_7 (by decide) fl7_18 ha rfl rfl (rc_o (by decide) (hxc)) ?_
          refine tn_iload_n dX7_find_64 rfl 2 rfl ?_
          refine tn_callSN (M := m_X7_find) (pc := 65) (ix := 91) (M' := m_X11_at) (As := [.ref xc, .int (iI i38)]) (rest := [.ref a]) dX7_find_65 ok_X11_at stt_X11_at nl7_91 np_X11_at rfl (Nat.le_of_ble_eq_true rfl) (Nat.le_of_ble_eq_true rfl) rfl (k_X11_at_j (d + 2) (T := T) (σ := (sA 70 a (i38) σ)) (x := xc) (i := i38) hk32i (by omega) (by omega) (hw.put (by decide) (by decide) (fo_70 (by omega))) ) (fun r34 T36 σ35 gt37 hp => ?_)
          obtain ⟨v41, rfl, rfl, rfl, f38, f39, f40⟩ := hp
          clear gt37
          clear f39
          show Tn _ _ 68 T (sA 70 a (i38) σ) [(0, .ref a), (2, .int (iI i27)), (3, .int (iI i38))] [.int (iI v41), .ref a] _
          refine tn_putV (ci := 7) (i := 16) (n := 71) (r := false) (v := v41) tyX7 tyX7_ok nmX7 dX7_find_68 rfl lay_7 (by decide) fl7_146 rfl (tyX7_ok 16 (by decide)) rfl rfl rfl ha rfl rfl ?_
          refine tn_aload_n dX7_find_71 rfl 0 rfl ?_
          refine tn_iload_n dX7_find_72 rfl 1 rfl ?_
          obtain ⟨hk44, hl45⟩ : AR T xa 15 9 9 := ar_of (wf_59 hw ha) hxa
          have hk44i : IA T xa := by unfold IA; omega
          obtain ⟨hl49, hk48a, hk48b⟩ := ex_at (wf_55 hw ha) hy
          have hk48i : (T y).1 = 4 ∨ (T y).1 = 5 := by omega
          have hk48c : RROW T a y := ⟨hk48a, hk48b⟩
          clear hk48a hk48b
          refine tn_callV (M := m_X7_find) (pc := 73) (ix := 149) (ci := 7) (M' := m_X7_climb) (As := [.int (iI i27)]) (rest := []) dX7_find_73 ok_X7_climb im_X7_climb se_X7_climb ml7_149 np_X7_climb rfl rfl ha rfl (Nat.le_of_ble_eq_true rfl) (Nat.le_of_ble_eq_true rfl) rfl (k_X7_climb_j (d) (T := T) (σ := (sA 71 a (v41) (sA 70 a (i38) σ))) (a := a) (p1 := i27) (xa := xa) (y := y) ha (by omega) ((hw.put (by decide) (by decide) (fo_70 (by omega))).put (by decide) (by decide) (fo_71 (by omega))) (rc_o (by decide) (rc_o (by decide) (hxa))) (rc_o (by decide) (rc_o (by decide) (hy)))) (fun r50 T52 σ51 gt53 hp => ?_)
          obtain ⟨rfl, rfl, w57, F58, f54, f55⟩ := hp
          clear gt53
          show Tn _ _ 76 T σ51 [(0, .ref a), (2, .int (iI i27)), (3, .int (iI i38))] [] _
          refine tn_aload_n dX7_find_76 rfl 0 rfl ?_
          have q63 : σ51.2.1 70 a = i38 := rc_F F58 (Or.inl (by decide)) (by decide) (rc_o (by decide) (ra_eq))
          refine tn_callV (M := m_X7_find) (pc := 77) (ix := 152) (ci := 7) (M' := m_X7_foundCode) (As := []) (rest := []) dX7_find_77 ok_X7_foundCode im_X7_foundCode se_X7_foundCode ml7_152 np_X7_foundCode rfl rfl ha rfl (Nat.le_of_ble_eq_true rfl) (Nat.le_of_ble_eq_true rfl) rfl (k_X7_foundCode_j (d + 1) (T := T) (σ := σ51) (a := a) (xa := xa) (y := y) ha w57 (rc_F F58 (Or.inl (by decide)) (by decide) (rc_o (by decide) (rc_o (by decide) (hxa)))) (rc_F F58 (Or.inl (by decide)) (by decide) (rc_o (by decide) (rc_o (by decide) (hy))))) (fun r59 T61 σ60 gt62 hp => ?_)
          obtain ⟨v66, rfl, rfl, rfl, rv67, f64, f65⟩ := hp
          clear gt62
          rcases rv67 with rv67 | ⟨xq68, rfl, hk69⟩
          · show Tn _ _ 80 T σ51 [(0, .ref a), (2, .int (iI i27)), (3, .int (iI i38))] (vl true v66 :: []) _
            rw [vl_null rv67]
            refine tn_ifnullN (tgt := 87) dX7_find_80 (by decide) ?_
            refine tn_iconst dX7_find_87 ?_
            exact tn_zret (v := 0) rfl (by decide) dX7_find_88 ⟨_, rfl, rfl, w57, (((FrC.rfl.put (by decide) (by decide)).put (by decide) (by decide)).trans (FrC.sub F58 (by decide))), by omega, (((CHX.rfl.fld (by simp) (by decide)).fld (by simp) (by decide)).trans (CHX.sub f54 (by simp) (by simp) (by simp))), fun q => absurd q (by decide), JFN.mk ⟨by omega, by omega⟩ (by omega) f17 (by omega) f40 f55 f54 f65 (Or.inl ⟨by assumption, rfl⟩)⟩
          · show Tn _ _ 80 T σ51 [(0, .ref a), (2, .int (iI i27)), (3, .int (iI i38))] (vl true (xq68 : Int) :: []) _
            rw [vl_ref rfl]
            have hk69o : OB T xq68 1 := hk69.1
            refine tn_ifnull dX7_find_80 ?_
            refine tn_iconst dX7_find_83 ?_
            refine tn_goto (tgt := 88) dX7_find_84 (by decide) ?_
            exact tn_zret (v := 1) rfl (by decide) dX7_find_88 ⟨_, rfl, rfl, w57, (((FrC.rfl.put (by decide) (by decide)).put (by decide) (by decide)).trans (FrC.sub F58 (by decide))), by omega, (((CHX.rfl.fld (by simp) (by decide)).fld (by simp) (by decide)).trans (CHX.sub f54 (by simp) (by simp) (by simp))), fun _ => by have q9 := f64; unfold CAT at q9; omega, JFN.mk ⟨by omega, by omega⟩ (by omega) f17 (by omega) f40 f55 f54 f65 (Or.inr ⟨Int.natCast_nonneg _, rfl⟩)⟩
        · show Tn _ _ 100 T σ [(0, .ref a), (2, .int (iI i219)), (3, .int (iI i320))] [] _
          refine tn_iconst dX7_find_100 ?_
          exact tn_zret (v := 0) rfl (by decide) dX7_find_101 ⟨_, rfl, rfl, hw, FrC.rfl, by omega, CHX.rfl, fun q => absurd q (by decide), Or.inl ⟨rfl, Or.inr (Or.inl f29)⟩⟩
      · refine tn_aload_n dX7_find_20 rfl 0 rfl ?_
        refine tn_getI (ci := 7) (i := 1) (n := 56) (t := σ.2.1 56 a) dX7_find_21 rfl lay_7 (by decide) fl7_34 ha rfl rfl (rfl) ?_
        refine tn_iconst dX7_find_24 ?_
        refine tn_icmp_eq (tgt := 30) dX7_find_25 (by decide) ⟨by omega, by omega⟩ ⟨by decide, by decide⟩ (fun h70 => ?_) (fun h70 => ?_)
        · refine tn_iload_n dX7_find_30 rfl 1 rfl ?_
          refine tn_istore_n (L' := [(2, .int (iI k)), (0, .ref a), (1, .int (iI k))]) dX7_find_31 rfl (by decide) rfl ?_
          refine tn_aload_n dX7_find_32 rfl 1 rfl ?_
          refine tn_getI (ci := 7) (i := 2) (n := 57) (t := σ.2.1 57 a) dX7_find_33 rfl lay_7 (by decide) fl7_65 ha rfl rfl (rfl) ?_
          have g71 : ((0 : Int) ≤ σ.2.1 57 a ∧ σ.2.1 57 a ≤ 11184800) ∧ ((T a).1 = 57 → σ.2.1 57 a ≤ 8) := wf_57 hw ha
          have g71x := g71.2
          replace g71 := g71.1
          clear g71x
          refine tn_istore_n (L' := [(3, .int (iI (σ.2.1 57 a))), (2, .int (iI k)), (0, .ref a), (1, .int (iI k))]) dX7_find_36 rfl (by decide) rfl ?_
          refine tn_sub [2, 1, 0] rfl (l_X7_find_j_37 (d) (T := T) (σ := σ) (a := a) (xa := xa) (xc := xc) (y := y) (V0 := (jFD (jCV T σ xa xc y) (σ.2.1 57 a + 1).toNat (σ.2.1 57 a) k)) ha hw (hxa) (hxc) (hy) (fun i272 i373 r79 r80 f81 f82 f83 => ?_) (fun i284 i385 r91 r92 f93 f94 => ?_) _ (k) (σ.2.1 57 a) (by omega) (by omega) rfl rfl)
          · show Tn _ _ 54 T σ [(0, .ref a), (2, .int (iI i272)), (3, .int (iI i373))] [] _
            refine tn_aload_n dX7_find_54 rfl 0 rfl ?_
            refine tn_iload_n dX7_find_55 rfl 2 rfl ?_
            refine tn_putV (ci := 7) (i := 15) (n := 70) (r := false) (v := i373) tyX7 tyX7_ok nmX7 dX7_find_56 rfl lay_7 (by decide) fl7_143 rfl (tyX7_ok 15 (by decide)) rfl rfl rfl ha rfl rfl ?_
            refine tn_aload_n dX7_find_59 rfl 0 rfl ?_
            refine tn_aload_n dX7_find_60 rfl 0 rfl ?_
            obtain ⟨hl98, hk97a, hk97b⟩ := ex_at (wf_61 hw ha) hxc
            have hk97i : IA T xc := by unfold IA; omega
            have hk97n : NH T xc := by unfold NH HT; omega
            clear hk97a hk97b
            refine tn_getR (ci := 7) (i := 6) (n := 61) (x := xc) dX7_find_61 rfl lay_7 (by decide) fl7_18 ha rfl rfl (rc_o (by decide) (hxc)) ?_
            refine tn_iload_n dX7_find_64 rfl 2 rfl ?_
            refine tn_callSN (M := m_X7_find) (pc := 65) (ix := 91) (M' := m_X11_at) (As := [.ref xc, .int (iI i373)]) (rest := [.ref a]) dX7_find_65 ok_X11_at stt_X11_at nl7_91 np_X11_at rfl (Nat.le_of_ble_eq_true rfl) (Nat.le_of_ble_eq_true rfl) rfl (k_X11_at_j (d + 2) (T := T) (σ := (sA 70 a (i373) σ)) (x := xc) (i := i373) hk97i (by omega) (by omega) (hw.put (by decide) (by decide) (fo_70 (by omega))) ) (fun r99 T101 σ100 gt102 hp => ?_)
            obtain ⟨v106, rfl, rfl, rfl, f103, f104, f105⟩ := hp
            clear gt102
            clear f104
            show Tn _ _ 68 T (sA 70 a (i373) σ) [(0, .ref a), (2, .int (iI i272)), (3, .int (iI i373))] [.int (iI v106), .ref a] _
            refine tn_putV (ci := 7) (i := 16) (n := 71) (r := false) (v := v106) tyX7 tyX7_ok nmX7 dX7_find_68 rfl lay_7 (by decide) fl7_146 rfl (tyX7_ok 16 (by decide)) rfl rfl rfl ha rfl rfl ?_
            refine tn_aload_n dX7_find_71 rfl 0 rfl ?_
            refine tn_iload_n dX7_find_72 rfl 1 rfl ?_
            obtain ⟨hk109, hl110⟩ : AR T xa 15 9 9 := ar_of (wf_59 hw ha) hxa
            have hk109i : IA T xa := by unfold IA; omega
            obtain ⟨hl114, hk113a, hk113b⟩ := ex_at (wf_55 hw ha) hy
            have hk113i : (T y).1 = 4 ∨ (T y).1 = 5 := by omega
            have hk113c : RROW T a y := ⟨hk113a, hk113b⟩
            clear hk113a hk113b
            refine tn_callV (M := m_X7_find) (pc := 73) (ix := 149) (ci := 7) (M' := m_X7_climb) (As := [.int (iI i272)]) (rest := []) dX7_find_73 ok_X7_climb im_X7_climb se_X7_climb ml7_149 np_X7_climb rfl rfl ha rfl (Nat.le_of_ble_eq_true rfl) (Nat.le_of_ble_eq_true rfl) rfl (k_X7_climb_j (d) (T := T) (σ := (sA 71 a (v106) (sA 70 a (i373) σ))) (a := a) (p1 := i272) (xa := xa) (y := y) ha (by omega) ((hw.put (by decide) (by decide) (fo_70 (by omega))).put (by decide) (by decide) (fo_71 (by omega))) (rc_o (by decide) (rc_o (by decide) (hxa))) (rc_o (by decide) (rc_o (by decide) (hy)))) (fun r115 T117 σ116 gt118 hp => ?_)
            obtain ⟨rfl, rfl, w122, F123, f119, f120⟩ := hp
            clear gt118
            show Tn _ _ 76 T σ116 [(0, .ref a), (2, .int (iI i272)), (3, .int (iI i373))] [] _
            refine tn_aload_n dX7_find_76 rfl 0 rfl ?_
            have q128 : σ116.2.1 70 a = i373 := rc_F F123 (Or.inl (by decide)) (by decide) (rc_o (by decide) (ra_eq))
            refine tn_callV (M := m_X7_find) (pc := 77) (ix := 152) (ci := 7) (M' := m_X7_foundCode) (As := []) (rest := []) dX7_find_77 ok_X7_foundCode im_X7_foundCode se_X7_foundCode ml7_152 np_X7_foundCode rfl rfl ha rfl (Nat.le_of_ble_eq_true rfl) (Nat.le_of_ble_eq_true rfl) rfl (k_X7_foundCode_j (d + 1) (T := T) (σ := σ116) (a := a) (xa := xa) (y := y) ha w122 (rc_F F123 (Or.inl (by decide)) (by decide) (rc_o (by decide) (rc_o (by decide) (hxa)))) (rc_F F123 (Or.inl (by decide)) (by decide) (rc_o (by decide) (rc_o (by decide) (hy))))) (fun r124 T126 σ125 gt127 hp => ?_)
            obtain ⟨v131, rfl, rfl, rfl, rv132, f129, f130⟩ := hp
            clear gt127
            rcases rv132 with rv132 | ⟨xq133, rfl, hk134⟩
            · show Tn _ _ 80 T σ116 [(0, .ref a), (2, .int (iI i272)), (3, .int (iI i373))] (vl true v131 :: []) _
              rw [vl_null rv132]
              refine tn_ifnullN (tgt := 87) dX7_find_80 (by decide) ?_
              refine tn_iconst dX7_find_87 ?_
              exact tn_zret (v := 0) rfl (by decide) dX7_find_88 ⟨_, rfl, rfl, w122, (((FrC.rfl.put (by decide) (by decide)).put (by decide) (by decide)).trans (FrC.sub F123 (by decide))), by omega, (((CHX.rfl.fld (by simp) (by decide)).fld (by simp) (by decide)).trans (CHX.sub f119 (by simp) (by simp) (by simp))), fun q => absurd q (by decide), JFN.mk ⟨by omega, by omega⟩ (by omega) f82 (by omega) f105 f120 f119 f130 (Or.inl ⟨by assumption, rfl⟩)⟩
            · show Tn _ _ 80 T σ116 [(0, .ref a), (2, .int (iI i272)), (3, .int (iI i373))] (vl true (xq133 : Int) :: []) _
              rw [vl_ref rfl]
              have hk134o : OB T xq133 1 := hk134.1
              refine tn_ifnull dX7_find_80 ?_
              refine tn_iconst dX7_find_83 ?_
              refine tn_goto (tgt := 88) dX7_find_84 (by decide) ?_
              exact tn_zret (v := 1) rfl (by decide) dX7_find_88 ⟨_, rfl, rfl, w122, (((FrC.rfl.put (by decide) (by decide)).put (by decide) (by decide)).trans (FrC.sub F123 (by decide))), by omega, (((CHX.rfl.fld (by simp) (by decide)).fld (by simp) (by decide)).trans (CHX.sub f119 (by simp) (by simp) (by simp))), fun _ => by have q9 := f129; unfold CAT at q9; omega, JFN.mk ⟨by omega, by omega⟩ (by omega) f82 (by omega) f105 f120 f119 f130 (Or.inr ⟨Int.natCast_nonneg _, rfl⟩)⟩
          · show Tn _ _ 100 T σ [(0, .ref a), (2, .int (iI i284)), (3, .int (iI i385))] [] _
            refine tn_iconst dX7_find_100 ?_
            exact tn_zret (v := 0) rfl (by decide) dX7_find_101 ⟨_, rfl, rfl, hw, FrC.rfl, by omega, CHX.rfl, fun q => absurd q (by decide), Or.inl ⟨rfl, Or.inr (Or.inl f94)⟩⟩
        · refine tn_iconst dX7_find_28 ?_
          exact tn_zret (v := 0) rfl (by decide) dX7_find_29 ⟨_, rfl, rfl, hw, FrC.rfl, by omega, CHX.rfl, fun q => absurd q (by decide), Or.inl ⟨rfl, Or.inl (by omega)⟩⟩
