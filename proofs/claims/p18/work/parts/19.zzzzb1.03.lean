section
set_option maxHeartbeats 1000000 in
set_option maxRecDepth 20000 in
theorem l_X7_find_j_37 (d : Nat) {T : CT} {σ : MS} {a : Nat} {V0 : Int × Int} {xa : Nat} {xc : Nat} {y : Nat} {post : Option Value → CT → MS → Prop} (h_a : OB T a 7) (hw : WT T σ) (hxa : σ.2.1 59 a = (xa : Int)) (hxc : σ.2.1 61 a = (xc : Int)) (hy : σ.2.1 55 a = (y : Int)) (hx_54 : ∀ (i2 : Int) (i3 : Int) , (-2147483648 ≤ i2 ∧ i2 ≤ 2147483647) → (-1 ≤ i3 ∧ i3 ≤ 11184800) → (True) → (V0 = (i3, i2)) → (0 ≤ i3) → Tn (d + 4) m_X7_find 54 T σ [(0, .ref a), (2, .int (iI i2)), (3, .int (iI i3))] [] post) (hx_100 : ∀ (i2 : Int) (i3 : Int) , (-2147483648 ≤ i2 ∧ i2 ≤ 2147483647) → (-1 ≤ i3 ∧ i3 ≤ 11184800) → (True) → (V0.1 < 0) → Tn (d + 4) m_X7_find 100 T σ [(0, .ref a), (2, .int (iI i2)), (3, .int (iI i3))] [] post) : ∀ (nq9 : Nat) (i2 : Int) (i3 : Int) , (-2147483648 ≤ i2 ∧ i2 ≤ 2147483647) → (-1 ≤ i3 ∧ i3 ≤ 11184800) → (jFD (jCV T σ xa xc y) (i3 + 1).toNat i3 i2 = V0) → (i3 + 20).toNat = nq9 → Tn (d + 4) m_X7_find 37 T σ [(0, .ref a), (2, .int (iI i2)), (3, .int (iI i3))] [] post := by
  intro nq9
  induction nq9 using Nat.strongRecOn with
  | _ nq9 ih =>
    intro i2 i3 r_i2 r_i3 hL hm
    refine tn_iload_n dX7_find_37 rfl 2 rfl ?_
    refine tn_if_lt (tgt := 100) dX7_find_38 (by decide) ⟨by omega, by omega⟩ (fun h1 => ?_) (fun h1 => ?_)
    · exact tn_sub [0, 1, 2] rfl (hx_100 (i2) (i3) (by omega) (by omega) trivial (jFD_n hL (by omega)))
    · refine tn_aload_n dX7_find_41 rfl 0 rfl ?_
      refine tn_iload_n dX7_find_42 rfl 2 rfl ?_
      obtain ⟨hk4, hl5⟩ : AR T xa 15 9 9 := ar_of (wf_59 hw h_a) hxa
      have hk4i : IA T xa := by unfold IA; omega
      obtain ⟨hl9, hk8a, hk8b⟩ := ex_at (wf_61 hw h_a) hxc
      have hk8i : IA T xc := by unfold IA; omega
      have hk8n : NH T xc := by unfold NH HT; omega
      clear hk8a hk8b
      obtain ⟨hl13, hk12a, hk12b⟩ := ex_at (wf_55 hw h_a) hy
      have hk12i : (T y).1 = 4 ∨ (T y).1 = 5 := by omega
      have hk12c : RROW T a y := ⟨hk12a, hk12b⟩
      clear hk12a hk12b
      refine tn_callV (M := m_X7_find) (pc := 43) (ix := 140) (ci := 7) (M' := m_X7_chainOf) (As := [.int (iI i3)]) (rest := []) dX7_find_43 ok_X7_chainOf im_X7_chainOf se_X7_chainOf ml7_140 np_X7_chainOf rfl rfl h_a rfl (Nat.le_of_ble_eq_true rfl) (Nat.le_of_ble_eq_true rfl) rfl (k_X7_chainOf_j (d + 1) (T := T) (σ := σ) (a := a) (p1 := i3) (xa := xa) (xc := xc) (y := y) h_a (by omega) hw (hxa) (hxc) (hy)) (fun r14 T16 σ15 gt17 hp => ?_)
      obtain ⟨v20, rfl, rfl, rfl, f18, f19⟩ := hp
      clear gt17
      show Tn _ _ 46 T σ [(0, .ref a), (2, .int (iI i2)), (3, .int (iI i3))] [.int (iI v20)] _
      have hcr := jCV_rng (T := T) (σ := σ) (xa := xa) (xc := xc) (y := y) (c := i3)
      rw [← f19] at hcr
      refine tn_istore (L' := [(4, .int (iI v20)), (0, .ref a), (2, .int (iI i2)), (3, .int (iI i3))]) dX7_find_46 (by decide) rfl ?_
      refine tn_iload_n dX7_find_48 rfl 2 rfl ?_
      refine tn_iload dX7_find_49 0 rfl ?_
      refine tn_icmp_ge (tgt := 89) dX7_find_51 (by decide) ⟨by omega, by omega⟩ ⟨by omega, by omega⟩ (fun h21 => ?_) (fun h21 => ?_)
      · refine tn_iload_n dX7_find_89 rfl 2 rfl ?_
        refine tn_iload dX7_find_90 0 rfl ?_
        refine tn_isub dX7_find_92 ?_
        refine tn_istore_n (L' := [(2, .int (iI (i2 - v20))), (4, .int (iI v20)), (0, .ref a), (3, .int (iI i3))]) dX7_find_93 rfl (by decide) rfl ?_
        refine tn_iinc (q0 := 3) (L' := [(3, .int (iI (i3 + (-1)))), (2, .int (iI (i2 - v20))), (4, .int (iI v20)), (0, .ref a)]) dX7_find_94 rfl (by decide) rfl ?_
        refine tn_goto (tgt := 37) dX7_find_97 (by decide) ?_
        exact tn_sub [3, 1, 0] rfl (ih _ (by omega) (i2 - v20) (i3 + (-1)) (by omega) (by omega) (jFD_s hL (by omega) f19 (by omega)) rfl)
      · exact tn_sub [1, 2, 3] rfl (hx_54 (i2) (i3) (by omega) (by omega) trivial (jFD_e hL (by omega) f19 (by omega)) (by omega))
set_option maxHeartbeats 1000000 in
set_option maxRecDepth 20000 in
theorem k_X7_find_j (d : Nat) {T : CT} {σ : MS} {a : Nat} {k : Int} {xa : Nat} {xc : Nat} {y : Nat} (ha : OB T a 7) (h_k : -2147483648 ≤ k ∧ k ≤ 2147483647) (hw : WT T σ) (hxa : σ.2.1 59 a = (xa : Int)) (hxc : σ.2.1 61 a = (xc : Int)) (hy : σ.2.1 55 a = (y : Int)) : Tn (d + 4) m_X7_find 0 T σ [(0, .ref a), (1, .int (iI k))] [] (fun ro T2 σ2 => ∃ v : Int, ro = some (.int (iI v)) ∧ T = T2 ∧ WT T2 σ2 ∧ FrC T [70, 71] σ σ2 ∧ (v = 0 ∨ v = 1) ∧ (CHX [(70, a), (71, a)] [] [] σ σ2) ∧ (v = 1 → 0 ≤ FRV T σ2 a ∧ FRV T σ2 a ≤ 5) ∧ (JFN T σ a xa xc y k v σ2)) := by
  refine tn_iload_n dX7_find_0 rfl 1 rfl ?_
  refine tn_if_lt (tgt := 28) dX7_find_1 (by decide) ⟨by omega, by omega⟩ (fun h1 => ?_) (fun h1 => ?_)
  · refine tn_iconst dX7_find_28 ?_
    exact tn_zret (v := 0) rfl (by decide) dX7_find_29 ⟨_, rfl, rfl, hw, FrC.rfl, by omega, CHX.rfl, fun q => absurd q (by decide), Or.inl ⟨rfl, Or.inl (by omega)⟩⟩
  · refine tn_iload_n dX7_find_4 rfl 1 rfl ?_
    refine tn_aload_n dX7_find_5 rfl 0 rfl ?_
    refine tn_getI (ci := 7) (i := 3) (n := 58) (t := σ.2.1 58 a) dX7_find_6 rfl lay_7 (by decide) fl7_38 ha rfl rfl (rfl) ?_
    have g2 : ((-2147483648 : Int) ≤ σ.2.1 58 a ∧ σ.2.1 58 a ≤ 2147483647) := wf_58 hw ha
    refine tn_icmp_ge (tgt := 28) dX7_find_9 (by decide) ⟨by omega, by omega⟩ ⟨by omega, by omega⟩ (fun h3 => ?_) (fun h3 => ?_)
    · refine tn_iconst dX7_find_28 ?_
      exact tn_zret (v := 0) rfl (by decide) dX7_find_29 ⟨_, rfl, rfl, hw, FrC.rfl, by omega, CHX.rfl, fun q => absurd q (by decide), Or.inl ⟨rfl, Or.inl (by omega)⟩⟩
    · refine tn_aload_n dX7_find_12 rfl 0 rfl ?_
      refine tn_getI (ci := 7) (i := 1) (n := 56) (t := σ.2.1 56 a) dX7_find_13 rfl lay_7 (by decide) fl7_34 ha rfl rfl (rfl) ?_
      have g4 : ((-2147483648 : Int) ≤ σ.2.1 56 a ∧ σ.2.1 56 a ≤ 2147483647) := wf_56 hw ha
      refine tn_iconst dX7_find_16 ?_
      refine tn_icmp_eq (tgt := 30) dX7_find_17 (by decide) ⟨by omega, by omega⟩ ⟨by decide, by decide⟩ (fun h5 => ?_) (fun h5 => ?_)
      · refine tn_iload_n dX7_find_30 rfl 1 rfl ?_
        refine tn_istore_n (L' := [(2, .int (iI k)), (0, .ref a), (1, .int (iI k))]) dX7_find_31 rfl (by decide) rfl ?_
        refine tn_aload_n dX7_find_32 rfl 1 rfl ?_
        refine tn_getI (ci := 7) (i := 2) (n := 57) (t := σ.2.1 57 a) dX7_find_33 rfl lay_7 (by decide) fl7_65 ha rfl rfl (rfl) ?_
        have g6 : ((0 : Int) ≤ σ.2.1 57 a ∧ σ.2.1 57 a ≤ 11184800) ∧ ((T a).1 = 57 → σ.2.1 57 a ≤ 8) := wf_57 hw ha
        have g6x := g6.2
        replace g6 := g6.1
        clear g6x
        refine tn_istore_n (L' := [(3, .int (iI (σ.2.1 57 a))), (2, .int (iI k)), (0, .ref a), (1, .int (iI k))]) dX7_find_36 rfl (by decide) rfl ?_
        refine tn_sub [2, 1, 0] rfl (l_X7_find_j_37 (d) (T := T) (σ := σ) (a := a) (xa := xa) (xc := xc) (y := y) (V0 := (jFD (jCV T σ xa xc y) (σ.2.1 57 a + 1).toNat (σ.2.1 57 a) k)) ha hw (hxa) (hxc) (hy) (fun i27 i38 r14 r15 f16 f17 f18 => ?_) (fun i219 i320 r26 r27 f28 f29 => ?_) _ (k) (σ.2.1 57 a) (by omega) (by omega) rfl rfl)
        · show Tn _ _ 54 T σ [(0, .ref a), (2, .int (iI i27)), (3, .int (iI i38))] [] _
          refine tn_aload_n dX7_find_54 rfl 0 rfl ?_
          refine tn_iload_n dX7_find_55 rfl 2 rfl ?_
          refine tn_putV (ci := 7) (i := 15) (n := 70) (r := false) (v := i38) tyX7 tyX7_ok nmX7 dX7_find_56 rfl lay_7 (by decide) fl7_143 rfl (tyX7_ok 15 (by decide)) rfl rfl rfl ha rfl rfl ?_
          refine tn_aload_n dX7_find_59 rfl 0 rfl ?_
          refine tn_aload_n dX7_find_60 rfl 0 rfl ?_
          obtain ⟨hl33, hk32a, hk32b⟩ := ex_at (wf_61 hw ha) hxc
          have hk32i : IA T xc := by unfold IA; omega
          have hk32n : NH T xc := by unfold NH HT; omega
          clear hk32a hk32b
          refine tn_getR (ci := 7) (i := 6) (n := 61) (x := xc) dX7_find_61 rfl lay_7 (by decide) fl7_18 ha rfl rfl (rc_o (by decide) (hxc)) ?_
          refine tn_iload_n dX7_find_64 rfl 2 rfl ?_
          refine tn_callSN (M := m_X7_find) (pc := 65) (ix := 91) (M' := m_X11_at) (As := [.ref xc, .int (iI i38)]) (rest := [.ref a]) dX7_find_65 ok_X11_at stt_X11_at nl7_91 np_X11_at rfl (Nat.le_of_ble_eq_true rfl) (Nat.le_of_ble_eq_true rfl) rfl (k_X11_at_j (d + 2) (T := T) (σ := (sA 70 a (i38) σ)) (x := xc) (i := i38) hk32i (by omega) (by omega) (hw.put (by decide) (by decide) (fo_70 (by omega))) ) (fun r34 T36 σ35 gt37 hp => ?_)
          obtain ⟨v41, rfl, rfl, rfl, f38, f39, f40⟩ := hp
          clear gt37
          clear f39
          show Tn _ _ 68 T (sA 70 a (i38) σ) [(0, .ref a), (2, .int (iI i27)), (3, .int (iI i38))] [.int (iI v41), .ref a] _
          refine tn_putV (ci := 7) (i := 16) (n := 71) (r := false) (v := v41) tyX7 tyX7_ok nmX7 dX7_find_68 rfl lay_7 (by decide) fl7_146 rfl (tyX7_ok 16 (by decide)) rfl rfl rfl ha rfl rfl ?_
          refine tn_aload_n dX7_find_71 rfl 0 rfl ?_
          refine tn_iload_n dX7_find_72 rfl 1 rfl ?_
          obtain ⟨hk44, hl45⟩ : AR T xa 15 9 9 := ar_of (wf_59 hw ha) hxa
          have hk44i : IA T xa := by unfold IA; omega
          obtain ⟨hl49, hk48a, hk48b⟩ := ex_at (wf_55 hw ha) hy
          have hk48i : (T y).1 = 4 ∨ (T y).1 = 5 := by omega
          have hk48c : RROW T a y := ⟨hk48a, hk48b⟩
          clear hk48a hk48b
          refine tn_callV (M := m_X7_find) (pc := 73) (ix := 149) (ci := 7) (M' := m_X7_climb) (As := [.int (iI i27)]) (rest := []) dX7_find_73 ok_X7_climb im_X7_climb se_X7_climb ml7_149 np_X7_climb rfl rfl ha rfl (Nat.le_of_ble_eq_true rfl) (Nat.le_of_ble_eq_true rfl) rfl (k_X7_climb_j (d) (T := T) (σ := (sA 71 a (v41) (sA 70 a (i38) σ))) (a := a) (p1 := i27) (xa := xa) (y := y) ha (by omega) ((hw.put (by decide) (by decide) (fo_70 (by omega))).put (by decide) (by decide) (fo_71 (by omega))) (rc_o (by decide) (rc_o (by decide) (hxa))) (rc_o (by decide) (rc_o (by decide) (hy)))) (fun r50 T52 σ51 gt53 hp => ?_)
          obtain ⟨rfl, rfl, w57, F58, f54, f55⟩ := hp
          clear gt53
          show Tn _ _ 76 T σ51 [(0, .ref a), (2, .int (iI i27)), (3, .int (iI i38))] [] _
          refine tn_aload_n dX7_find_76 rfl 0 rfl ?_
          have q63 : σ51.2.1 70 a = i38 := rc_F F58 (Or.inl (by decide)) (by decide) (rc_o (by decide) (ra_eq))
          refine tn_callV (M := m_X7_find) (pc := 77) (ix := 152) (ci := 7) (M' := m_X7_foundCode) (As := []) (rest := []) dX7_find_77 ok_X7_foundCode im_X7_foundCode se_X7_foundCode ml7_152 np_X7_foundCode rfl rfl ha rfl (Nat.le_of_ble_eq_true rfl) (Nat.le_of_ble_eq_true rfl) rfl (k_X7_foundCode_j (d + 1) (T := T) (σ := σ51) (a := a) (xa := xa) (y := y) ha w57 (rc_F F58 (Or.inl (by decide)) (by decide) (rc_o (by decide) (rc_o (by decide) (hxa)))) (rc_F F58 (Or.inl (by decide)) (by decide) (rc_o (by decide) (rc_o (by decide) (hy))))) (fun r59 T61 σ60 gt62 hp => ?_)
          obtain ⟨v66, rfl, rfl, rfl, rv67, f64, f65⟩ := hp
          clear gt62
          rcases rv67 with rv67 | ⟨xq68, rfl, hk69⟩
          · show Tn _ _ 80 T σ51 [(0, .ref a), (2, .int (iI i27)), (3, .int (iI i38))] (vl true v66 :: []) _
            rw [vl_null rv67]
            refine tn_ifnullN (tgt := 87) dX7_find_80 (by decide) ?_
            refine tn_iconst dX7_find_87 ?_
            exact tn_zret (v := 0) rfl (by decide) dX7_find_88 ⟨_, rfl, rfl, w57, (((FrC.rfl.put (by decide) (by decide)).put (by decide) (by decide)).trans (FrC.sub F58 (by decide))), by omega, (((CHX.rfl.fld (by simp) (by decide)).fld (by simp) (by decide)).trans (CHX.sub f54 (by simp) (by simp) (by simp))), fun q => absurd q (by decide), JFN.mk ⟨by omega, by omega⟩ (by omega) f17 (by omega) f40 f55 f54 f65 (Or.inl ⟨by assumption, rfl⟩)⟩
          · show Tn _ _ 80 T σ51 [(0, .ref a), (2, .int (iI i27)), (3, .int (iI i38))] (vl true (xq68 : Int) :: []) _
            rw [vl_ref rfl]
            have hk69o : OB T xq68 1 := hk69.1
            refine tn_ifnull dX7_find_80 ?_
            refine tn_iconst dX7_find_83 ?_
            refine tn_goto (tgt := 88) dX7_find_84 (by decide) ?_
            exact tn_zret (v := 1) rfl (by decide) dX7_find_88 ⟨_, rfl, rfl, w57, (((FrC.rfl.put (by decide) (by decide)).put (by decide) (by decide)).trans (FrC.sub F58 (by decide))), by omega, (((CHX.rfl.fld (by simp) (by decide)).fld (by simp) (by decide)).trans (CHX.sub f54 (by simp) (by simp) (by simp))), fun _ => by have q9 := f64; unfold CAT at q9; omega, JFN.mk ⟨by omega, by omega⟩ (by omega) f17 (by omega) f40 f55 f54 f65 (Or.inr ⟨Int.natCast_nonneg _, rfl⟩)⟩
        · show Tn _ _ 100 T σ [(0, .ref a), (2, .int (iI i219)), (3, .int (iI i320))] [] _
          refine tn_iconst dX7_find_100 ?_
          exact tn_zret (v := 0) rfl (by decide) dX7_find_101 ⟨_, rfl, rfl, hw, FrC.rfl, by omega, CHX.rfl, fun q => absurd q (by decide), Or.inl ⟨rfl, Or.inr (Or.inl f29)⟩⟩
      · refine tn_aload_n dX7_find_20 rfl 0 rfl ?_
        refine tn_getI (ci := 7) (i := 1) (n := 56) (t := σ.2.1 56 a) dX7_find_21 rfl lay_7 (by decide) fl7_34 ha rfl rfl (rfl) ?_
        refine tn_iconst dX7_find_24 ?_
        refine tn_icmp_eq (tgt := 30) dX7_find_25 (by decide) ⟨by omega, by omega⟩ ⟨by decide, by decide⟩ (fun h70 => ?_) (fun h70 => ?_)
        · refine tn_iload_n dX7_find_30 rfl 1 rfl ?_
          refine tn_istore_n (L' := [(2, .int (iI k)), (0, .ref a), (1, .int (iI k))]) dX7_find_31 rfl (by decide) rfl ?_
          refine tn_aload_n dX7_find_32 rfl 1 rfl ?_
          refine tn_getI (ci := 7) (i := 2) (n := 57) (t := σ.2.1 57 a) dX7_find_33 rfl lay_7 (by decide) fl7_65 ha rfl rfl (rfl) ?_
          have g71 : ((0 : Int) ≤ σ.2.1 57 a ∧ σ.2.1 57 a ≤ 11184800) ∧ ((T a).1 = 57 → σ.2.1 57 a ≤ 8) := wf_57 hw ha
          have g71x := g71.2
          replace g71 := g71.1
          clear g71x
          refine tn_istore_n (L' := [(3, .int (iI (σ.2.1 57 a))), (2, .int (iI k)), (0, .ref a), (1, .int (iI k))]) dX7_find_36 rfl (by decide) rfl ?_
          refine tn_sub [2, 1, 0] rfl (l_X7_find_j_37 (d) (T := T) (σ := σ) (a := a) (xa := xa) (xc := xc) (y := y) (V0 := (jFD (jCV T σ xa xc y) (σ.2.1 57 a + 1).toNat (σ.2.1 57 a) k)) ha hw (hxa) (hxc) (hy) (fun i272 i373 r79 r80 f81 f82 f83 => ?_) (fun i284 i385 r91 r92 f93 f94 => ?_) _ (k) (σ.2.1 57 a) (by omega) (by omega) rfl rfl)
          · show Tn _ _ 54 T σ [(0, .ref a), (2, .int (iI i272)), (3, .int (iI i373))] [] _
            refine tn_aload_n dX7_find_54 rfl 0 rfl ?_
            refine tn_iload_n dX7_find_55 rfl 2 rfl ?_
            refine tn_putV (ci := 7) (i := 15) (n := 70) (r := false) (v := i373) tyX7 tyX7_ok nmX7 dX7_find_56 rfl lay_7 (by decide) fl7_143 rfl (tyX7_ok 15 (by decide)) rfl rfl rfl ha rfl rfl ?_
            refine tn_aload_n dX7_find_59 rfl 0 rfl ?_
            refine tn_aload_n dX7_find_60 rfl 0 rfl ?_
            obtain ⟨hl98, hk97a, hk97b⟩ := ex_at (wf_61 hw ha) hxc
            have hk97i : IA T xc := by unfold IA; omega
            have hk97n : NH T xc := by unfold NH HT; omega
            clear hk97a hk97b
            refine tn_getR (ci := 7) (i := 6) (n := 61) (x := xc) dX7_find_61 rfl lay_7 (by decide) fl7_18 ha rfl rfl (rc_o (by decide) (hxc)) ?_
            refine tn_iload_n dX7_find_64 rfl 2 rfl ?_
            refine tn_callSN (M := m_X7_find) (pc := 65) (ix := 91) (M' := m_X11_at) (As := [.ref xc, .int (iI i373)]) (rest := [.ref a]) dX7_find_65 ok_X11_at stt_X11_at nl7_91 np_X11_at rfl (Nat.le_of_ble_eq_true rfl) (Nat.le_of_ble_eq_true rfl) rfl (k_X11_at_j (d + 2) (T := T) (σ := (sA 70 a (i373) σ)) (x := xc) (i := i373) hk97i (by omega) (by omega) (hw.put (by decide) (by decide) (fo_70 (by omega))) ) (fun r99 T101 σ100 gt102 hp => ?_)
            obtain ⟨v106, rfl, rfl, rfl, f103, f104, f105⟩ := hp
            clear gt102
            clear f104
            show Tn _ _ 68 T (sA 70 a (i373) σ) [(0, .ref a), (2, .int (iI i272)), (3, .int (iI i373))] [.int (iI v106), .ref a] _
            refine tn_putV (ci := 7) (i := 16) (n := 71) (r := false) (v := v106) tyX7 tyX7_ok nmX7 dX7_find_68 rfl lay_7 (by decide) fl7_146 rfl (tyX7_ok 16 (by decide)) rfl rfl rfl ha rfl rfl ?_
            refine tn_aload_n dX7_find_71 rfl 0 rfl ?_
            refine tn_iload_n dX7_find_72 rfl 1 rfl ?_
            obtain ⟨hk109, hl110⟩ : AR T xa 15 9 9 := ar_of (wf_59 hw ha) hxa
            have hk109i : IA T xa := by unfold IA; omega
            obtain ⟨hl114, hk113a, hk113b⟩ := ex_at (wf_55 hw ha) hy
            have hk113i : (T y).1 = 4 ∨ (T y).1 = 5 := by omega
            have hk113c : RROW T a y := ⟨hk113a, hk113b⟩
            clear hk113a hk113b
            refine tn_callV (M := m_X7_find) (pc := 73) (ix := 149) (ci := 7) (M' := m_X7_climb) (As := [.int (iI i272)]) (rest := []) dX7_find_73 ok_X7_climb im_X7_climb se_X7_climb ml7_149 np_X7_climb rfl rfl ha rfl (Nat.le_of_ble_eq_true rfl) (Nat.le_of_ble_eq_true rfl) rfl (k_X7_climb_j (d) (T := T) (σ := (sA 71 a (v106) (sA 70 a (i373) σ))) (a := a) (p1 := i272) (xa := xa) (y := y) ha (by omega) ((hw.put (by decide) (by decide) (fo_70 (by omega))).put (by decide) (by decide) (fo_71 (by omega))) (rc_o (by decide) (rc_o (by decide) (hxa))) (rc_o (by decide) (rc_o (by decide) (hy)))) (fun r115 T117 σ116 gt118 hp => ?_)
            obtain ⟨rfl, rfl, w122, F123, f119, f120⟩ := hp
            clear gt118
            show Tn _ _ 76 T σ116 [(0, .ref a), (2, .int (iI i272)), (3, .int (iI i373))] [] _
            refine tn_aload_n dX7_find_76 rfl 0 rfl ?_
            have q128 : σ116.2.1 70 a = i373 := rc_F F123 (Or.inl (by decide)) (by decide) (rc_o (by decide) (ra_eq))
            refine tn_callV (M := m_X7_find) (pc := 77) (ix := 152) (ci := 7) (M' := m_X7_foundCode) (As := []) (rest := []) dX7_find_77 ok_X7_foundCode im_X7_foundCode se_X7_foundCode ml7_152 np_X7_foundCode rfl rfl ha rfl (Nat.le_of_ble_eq_true rfl) (Nat.le_of_ble_eq_true rfl) rfl (k_X7_foundCode_j (d + 1) (T := T) (σ := σ116) (a := a) (xa := xa) (y := y) ha w122 (rc_F F123 (Or.inl (by decide)) (by decide) (rc_o (by decide) (rc_o (by decide) (hxa)))) (rc_F F123 (Or.inl (by decide)) (by decide) (rc_o (by decide) (rc_o (by decide) (hy))))) (fun r124 T126 σ125 gt127 hp => ?_)
            obtain ⟨v131, rfl, rfl, rfl, rv132, f129, f130⟩ := hp
            clear gt127
            rcases rv132 with rv132 | ⟨xq133, rfl, hk134⟩
            · show Tn _ _ 80 T σ116 [(0, .ref a), (2, .int (iI i272)), (3, .int (iI i373))] (vl true v131 :: []) _
              rw [vl_null rv132]
              refine tn_ifnullN (tgt := 87) dX7_find_80 (by decide) ?_
              refine tn_iconst dX7_find_87 ?_
              exact tn_zret (v := 0) rfl (by decide) dX7_find_88 ⟨_, rfl, rfl, w122, (((FrC.rfl.put (by decide) (by decide)).put (by decide) (by decide)).trans (FrC.sub F123 (by decide))), by omega, (((CHX.rfl.fld (by simp) (by decide)).fld (by simp) (by decide)).trans (CHX.sub f119 (by simp) (by simp) (by simp))), fun q => absurd q (by decide), JFN.mk ⟨by omega, by omega⟩ (by omega) f82 (by omega) f105 f120 f119 f130 (Or.inl ⟨by assumption, rfl⟩)⟩
            · show Tn _ _ 80 T σ116 [(0, .ref a), (2, .int (iI i272)), (3, .int (iI i373))] (vl true (xq133 : Int) :: []) _
              rw [vl_ref rfl]
              have hk134o : OB T xq133 1 := hk134.1
              refine tn_ifnull dX7_find_80 ?_
              refine tn_iconst dX7_find_83 ?_
              refine tn_goto (tgt := 88) dX7_find_84 (by decide) ?_
              exact tn_zret (v := 1) rfl (by decide) dX7_find_88 ⟨_, rfl, rfl, w122, (((FrC.rfl.put (by decide) (by decide)).put (by decide) (by decide)).trans (FrC.sub F123 (by decide))), by omega, (((CHX.rfl.fld (by simp) (by decide)).fld (by simp) (by decide)).trans (CHX.sub f119 (by simp) (by simp) (by simp))), fun _ => by have q9 := f129; unfold CAT at q9; omega, JFN.mk ⟨by omega, by omega⟩ (by omega) f82 (by omega) f105 f120 f119 f130 (Or.inr ⟨Int.natCast_nonneg _, rfl⟩)⟩
          · show Tn _ _ 100 T σ [(0, .ref a), (2, .int (iI i284)), (3, .int (iI i385))] [] _
            refine tn_iconst dX7_find_100 ?_
            exact tn_zret (v := 0) rfl (by decide) dX7_find_101 ⟨_, rfl, rfl, hw, FrC.rfl, by omega, CHX.rfl, fun q => absurd q (by decide), Or.inl ⟨rfl, Or.inr (Or.inl f94)⟩⟩
        · refine tn_iconst dX7_find_28 ?_
          exact tn_zret (v := 0) rfl (by decide) dX7_find_29 ⟨_, rfl, rfl, hw, FrC.rfl, by omega, CHX.rfl, fun q => absurd q (by decide), Or.inl ⟨rfl, Or.inl (by omega)⟩⟩
end
section
set_option maxHeartbeats 1000000 in
set_option maxRecDepth 20000 in
theorem k_X7_foundLine_j (d : Nat) {T : CT} {σ : MS} {a : Nat} {xd : Nat} (ha : OB T a 7) (hw : WT T σ) (hxd : σ.2.1 62 a = (xd : Int)) : Tn (d + 2) m_X7_foundLine 0 T σ [(0, .ref a)] [] (fun ro T2 σ2 => ∃ v : Int, ro = some (.int (iI v)) ∧ T = T2 ∧ σ = σ2 ∧ (-2147483648 ≤ v ∧ v ≤ 2147483647) ∧ (v = jA T xd (w32 (w32 (σ.2.1 70 a * 12) + σ.2.1 71 a)) σ)) := by
  refine tn_aload_n dX7_foundLine_0 rfl 0 rfl ?_
  obtain ⟨hk3, hl4⟩ : AR T xd 1 108 108 := ar_of (wf_62 hw ha) hxd
  have hk3i : IA T xd := by unfold IA; omega
  refine tn_getR (ci := 7) (i := 7) (n := 62) (x := xd) dX7_foundLine_1 rfl lay_7 (by decide) fl7_21 ha rfl rfl (hxd) ?_
  refine tn_aload_n dX7_foundLine_4 rfl 0 rfl ?_
  refine tn_getI (ci := 7) (i := 15) (n := 70) (t := σ.2.1 70 a) dX7_foundLine_5 rfl lay_7 (by decide) fl7_143 ha rfl rfl (rfl) ?_
  have g5 : ((-2147483648 : Int) ≤ σ.2.1 70 a ∧ σ.2.1 70 a ≤ 2147483647) := wf_70 hw ha
  refine tn_bipush dX7_foundLine_8 (by decide) ?_
  refine tn_imul dX7_foundLine_10 ?_
  rw [show iI ((σ.2.1 70 a) * 12) = iI (w32 ((σ.2.1 70 a) * 12)) from (iI_self _).symm]
  have g6r : -2147483648 ≤ w32 ((σ.2.1 70 a) * 12) ∧ w32 ((σ.2.1 70 a) * 12) ≤ 2147483647 := inR_toInt _
  refine tn_aload_n dX7_foundLine_11 rfl 0 rfl ?_
  refine tn_getI (ci := 7) (i := 16) (n := 71) (t := σ.2.1 71 a) dX7_foundLine_12 rfl lay_7 (by decide) fl7_146 ha rfl rfl (rfl) ?_
  have g7 : ((-2147483648 : Int) ≤ σ.2.1 71 a ∧ σ.2.1 71 a ≤ 2147483647) := wf_71 hw ha
  refine tn_iadd dX7_foundLine_15 ?_
  rw [show iI ((w32 ((σ.2.1 70 a) * 12)) + (σ.2.1 71 a)) = iI (w32 ((w32 ((σ.2.1 70 a) * 12)) + (σ.2.1 71 a))) from (iI_self _).symm]
  have g8r : -2147483648 ≤ w32 ((w32 ((σ.2.1 70 a) * 12)) + (σ.2.1 71 a)) ∧ w32 ((w32 ((σ.2.1 70 a) * 12)) + (σ.2.1 71 a)) ≤ 2147483647 := inR_toInt _
  refine tn_callSN (M := m_X7_foundLine) (pc := 16) (ix := 91) (M' := m_X11_at) (As := [.ref xd, .int (iI (w32 ((w32 ((σ.2.1 70 a) * 12)) + (σ.2.1 71 a))))]) (rest := []) dX7_foundLine_16 ok_X11_at stt_X11_at nl7_91 np_X11_at rfl (Nat.le_of_ble_eq_true rfl) (Nat.le_of_ble_eq_true rfl) rfl (k_X11_at_j (d) (T := T) (σ := σ) (x := xd) (i := w32 ((w32 ((σ.2.1 70 a) * 12)) + (σ.2.1 71 a))) hk3i (by omega) (by omega) hw ) (fun r9 T11 σ10 gt12 hp => ?_)
  obtain ⟨v16, rfl, rfl, rfl, f13, f14, f15⟩ := hp
  clear gt12
  clear f14
  show Tn _ _ 19 T σ [(0, .ref a)] [.int (iI v16)] _
  exact tn_iret rfl dX7_foundLine_19 ⟨_, rfl, rfl, rfl, by omega, f15⟩
end
section
set_option maxHeartbeats 1000000 in
set_option maxRecDepth 20000 in
theorem k_X7_foundRoutine_j (d : Nat) {T : CT} {σ : MS} {a : Nat} {xa : Nat} {y : Nat} (ha : OB T a 7) (hw : WT T σ) (hxa : σ.2.1 59 a = (xa : Int)) (hy : σ.2.1 55 a = (y : Int)) : Tn (d + 3) m_X7_foundRoutine 0 T σ [(0, .ref a)] [] (fun ro T2 σ2 => ∃ v : Int, ro = some (.int (iI v)) ∧ T = T2 ∧ σ = σ2 ∧ (-2147483648 ≤ v ∧ v ≤ 2147483647) ∧ (JFR T σ a xa y 11 (-1) v)) := by
  refine tn_aload_n dX7_foundRoutine_0 rfl 0 rfl ?_
  obtain ⟨hk3, hl4⟩ : AR T xa 15 9 9 := ar_of (wf_59 hw ha) hxa
  have hk3i : IA T xa := by unfold IA; omega
  obtain ⟨hl8, hk7a, hk7b⟩ := ex_at (wf_55 hw ha) hy
  have hk7i : (T y).1 = 4 ∨ (T y).1 = 5 := by omega
  have hk7c : RROW T a y := ⟨hk7a, hk7b⟩
  clear hk7a hk7b
  refine tn_callV (M := m_X7_foundRoutine) (pc := 1) (ix := 152) (ci := 7) (M' := m_X7_foundCode) (As := []) (rest := []) dX7_foundRoutine_1 ok_X7_foundCode im_X7_foundCode se_X7_foundCode ml7_152 np_X7_foundCode rfl rfl ha rfl (Nat.le_of_ble_eq_true rfl) (Nat.le_of_ble_eq_true rfl) rfl (k_X7_foundCode_j (d) (T := T) (σ := σ) (a := a) (xa := xa) (y := y) ha hw (hxa) (hy)) (fun r9 T11 σ10 gt12 hp => ?_)
  obtain ⟨v15, rfl, rfl, rfl, rv16, f13, f14⟩ := hp
  clear gt12
  clear f13
  rcases rv16 with rv16 | ⟨xq17, rfl, hk18⟩
  · show Tn _ _ 4 T σ [(0, .ref a)] (vl true v15 :: []) _
    rw [vl_null rv16]
    refine tn_astore_nN (L' := [(1, .null), (0, .ref a)]) dX7_foundRoutine_4 rfl (by decide) rfl ?_
    refine tn_aload_nN dX7_foundRoutine_5 rfl 0 rfl ?_
    refine tn_ifnonnullN dX7_foundRoutine_6 ?_
    refine tn_iconst dX7_foundRoutine_9 ?_
    refine tn_goto (tgt := 24) dX7_foundRoutine_10 (by decide) ?_
    exact tn_iret rfl dX7_foundRoutine_24 ⟨_, rfl, rfl, rfl, by omega, Or.inl ⟨f14.neg (by assumption), rfl⟩⟩
  · show Tn _ _ 4 T σ [(0, .ref a)] (vl true (xq17 : Int) :: []) _
    rw [vl_ref rfl]
    have hk18o : OB T xq17 1 := hk18.1
    refine tn_astore_n (L' := [(1, .ref xq17), (0, .ref a)]) dX7_foundRoutine_4 rfl (by decide) rfl ?_
    refine tn_aload_n dX7_foundRoutine_5 rfl 0 rfl ?_
    refine tn_ifnonnull (tgt := 13) dX7_foundRoutine_6 (by decide) ?_
    refine tn_aload_n dX7_foundRoutine_13 rfl 0 rfl ?_
    obtain ⟨xq19, hx20, hk21, hl22⟩ : ∃ x : Nat, σ.2.1 11 xq17 = (x : Int) ∧ AR T x 1 12 12 := wf_11 hw hk18o
    have hk21i : IA T xq19 := by unfold IA; omega
    refine tn_getR (ci := 1) (i := 6) (n := 11) (x := xq19) dX7_foundRoutine_14 rfl lay_1 (by decide) fl7_156 hk18o rfl rfl (hx20) ?_
    refine tn_aload_n dX7_foundRoutine_17 rfl 1 rfl ?_
    refine tn_getI (ci := 7) (i := 16) (n := 71) (t := σ.2.1 71 a) dX7_foundRoutine_18 rfl lay_7 (by decide) fl7_146 ha rfl rfl (rfl) ?_
    have g23 : ((-2147483648 : Int) ≤ σ.2.1 71 a ∧ σ.2.1 71 a ≤ 2147483647) := wf_71 hw ha
    refine tn_callSN (M := m_X7_foundRoutine) (pc := 21) (ix := 91) (M' := m_X11_at) (As := [.ref xq19, .int (iI (σ.2.1 71 a))]) (rest := []) dX7_foundRoutine_21 ok_X11_at stt_X11_at nl7_91 np_X11_at rfl (Nat.le_of_ble_eq_true rfl) (Nat.le_of_ble_eq_true rfl) rfl (k_X11_at_j (d + 1) (T := T) (σ := σ) (x := xq19) (i := σ.2.1 71 a) hk21i (by omega) (by omega) hw ) (fun r24 T26 σ25 gt27 hp => ?_)
    obtain ⟨v31, rfl, rfl, rfl, f28, f29, f30⟩ := hp
    clear gt27
    clear f29
    show Tn _ _ 24 T σ [(1, .ref xq17), (0, .ref a)] [.int (iI v31)] _
    exact tn_iret rfl dX7_foundRoutine_24 ⟨_, rfl, rfl, rfl, by omega, Or.inr ⟨xq17, xq19, f14.pos (Int.natCast_nonneg _), hx20, f30⟩⟩
end
section
set_option maxHeartbeats 1000000 in
set_option maxRecDepth 20000 in
theorem k_X7_foundNames_j (d : Nat) {T : CT} {σ : MS} {a : Nat} {xa : Nat} {y : Nat} (ha : OB T a 7) (hw : WT T σ) (hxa : σ.2.1 59 a = (xa : Int)) (hy : σ.2.1 55 a = (y : Int)) : Tn (d + 3) m_X7_foundNames 0 T σ [(0, .ref a)] [] (fun ro T2 σ2 => ∃ v : Int, ro = some (.int (iI v)) ∧ T = T2 ∧ σ = σ2 ∧ (-2147483648 ≤ v ∧ v ≤ 2147483647) ∧ (JFR T σ a xa y 14 0 v)) := by
  refine tn_aload_n dX7_foundNames_0 rfl 0 rfl ?_
  obtain ⟨hk3, hl4⟩ : AR T xa 15 9 9 := ar_of (wf_59 hw ha) hxa
  have hk3i : IA T xa := by unfold IA; omega
  obtain ⟨hl8, hk7a, hk7b⟩ := ex_at (wf_55 hw ha) hy
  have hk7i : (T y).1 = 4 ∨ (T y).1 = 5 := by omega
  have hk7c : RROW T a y := ⟨hk7a, hk7b⟩
  clear hk7a hk7b
  refine tn_callV (M := m_X7_foundNames) (pc := 1) (ix := 152) (ci := 7) (M' := m_X7_foundCode) (As := []) (rest := []) dX7_foundNames_1 ok_X7_foundCode im_X7_foundCode se_X7_foundCode ml7_152 np_X7_foundCode rfl rfl ha rfl (Nat.le_of_ble_eq_true rfl) (Nat.le_of_ble_eq_true rfl) rfl (k_X7_foundCode_j (d) (T := T) (σ := σ) (a := a) (xa := xa) (y := y) ha hw (hxa) (hy)) (fun r9 T11 σ10 gt12 hp => ?_)
  obtain ⟨v15, rfl, rfl, rfl, rv16, f13, f14⟩ := hp
  clear gt12
  clear f13
  rcases rv16 with rv16 | ⟨xq17, rfl, hk18⟩
  · show Tn _ _ 4 T σ [(0, .ref a)] (vl true v15 :: []) _
    rw [vl_null rv16]
    refine tn_astore_nN (L' := [(1, .null), (0, .ref a)]) dX7_foundNames_4 rfl (by decide) rfl ?_
    refine tn_aload_nN dX7_foundNames_5 rfl 0 rfl ?_
    refine tn_ifnonnullN dX7_foundNames_6 ?_
    refine tn_iconst dX7_foundNames_9 ?_
    refine tn_goto (tgt := 24) dX7_foundNames_10 (by decide) ?_
    exact tn_iret rfl dX7_foundNames_24 ⟨_, rfl, rfl, rfl, by omega, Or.inl ⟨f14.neg (by assumption), rfl⟩⟩
  · show Tn _ _ 4 T σ [(0, .ref a)] (vl true (xq17 : Int) :: []) _
    rw [vl_ref rfl]
    have hk18o : OB T xq17 1 := hk18.1
    refine tn_astore_n (L' := [(1, .ref xq17), (0, .ref a)]) dX7_foundNames_4 rfl (by decide) rfl ?_
    refine tn_aload_n dX7_foundNames_5 rfl 0 rfl ?_
    refine tn_ifnonnull (tgt := 13) dX7_foundNames_6 (by decide) ?_
    refine tn_aload_n dX7_foundNames_13 rfl 0 rfl ?_
    obtain ⟨xq19, hx20, hk21, hl22⟩ : ∃ x : Nat, σ.2.1 14 xq17 = (x : Int) ∧ AR T x 11 12 12 := wf_14 hw hk18o
    have hk21i : IA T xq19 := by unfold IA; omega
    refine tn_getR (ci := 1) (i := 9) (n := 14) (x := xq19) dX7_foundNames_14 rfl lay_1 (by decide) fl7_159 hk18o rfl rfl (hx20) ?_
    refine tn_aload_n dX7_foundNames_17 rfl 1 rfl ?_
    refine tn_getI (ci := 7) (i := 16) (n := 71) (t := σ.2.1 71 a) dX7_foundNames_18 rfl lay_7 (by decide) fl7_146 ha rfl rfl (rfl) ?_
    have g23 : ((-2147483648 : Int) ≤ σ.2.1 71 a ∧ σ.2.1 71 a ≤ 2147483647) := wf_71 hw ha
    refine tn_callSN (M := m_X7_foundNames) (pc := 21) (ix := 91) (M' := m_X11_at) (As := [.ref xq19, .int (iI (σ.2.1 71 a))]) (rest := []) dX7_foundNames_21 ok_X11_at stt_X11_at nl7_91 np_X11_at rfl (Nat.le_of_ble_eq_true rfl) (Nat.le_of_ble_eq_true rfl) rfl (k_X11_at_j (d + 1) (T := T) (σ := σ) (x := xq19) (i := σ.2.1 71 a) hk21i (by omega) (by omega) hw ) (fun r24 T26 σ25 gt27 hp => ?_)
    obtain ⟨v31, rfl, rfl, rfl, f28, f29, f30⟩ := hp
    clear gt27
    clear f29
    show Tn _ _ 24 T σ [(1, .ref xq17), (0, .ref a)] [.int (iI v31)] _
    exact tn_iret rfl dX7_foundNames_24 ⟨_, rfl, rfl, rfl, by omega, Or.inr ⟨xq17, xq19, f14.pos (Int.natCast_nonneg _), hx20, f30⟩⟩
end
section
set_option maxHeartbeats 1000000 in
set_option maxRecDepth 20000 in
theorem k_X11_stack_j (d : Nat) {T : CT} {σ : MS} {a : Nat} {k : Int} {w : Int} {rn : Nat} {xa : Nat} {xc : Nat} {xd : Nat} {y : Nat} (ha : OB T a 11) (h_k : -2147483648 ≤ k ∧ k ≤ 2147483647) (h_w : -2147483648 ≤ w ∧ w ≤ 2147483647) (hw : WT T σ) (hrn : σ.2.1 103 a = (rn : Int)) (hxa : σ.2.1 59 rn = (xa : Int)) (hxc : σ.2.1 61 rn = (xc : Int)) (hxd : σ.2.1 62 rn = (xd : Int)) (hy : σ.2.1 55 rn = (y : Int)) : Tn (d + 5) m_X11_stack 0 T σ [(0, .ref a), (1, .int (iI k)), (2, .int (iI w))] [] (fun ro T2 σ2 => ∃ v : Int, ro = some (.int (iI v)) ∧ T = T2 ∧ WT T2 σ2 ∧ FrC T [70, 71] σ σ2 ∧ (-2147483648 ≤ v ∧ v ≤ 2147483647) ∧ (CHX [(70, rn), (71, rn)] [] [] σ σ2) ∧ (JSK T σ rn xa xc xd y k w v σ2)) := by
  refine tn_iload_n dX11_stack_0 rfl 2 rfl ?_
  refine tn_if_lt (tgt := 20) dX11_stack_1 (by decide) ⟨by omega, by omega⟩ (fun h1 => ?_) (fun h1 => ?_)
  · refine tn_iconst dX11_stack_20 ?_
    exact tn_iret rfl dX11_stack_21 ⟨_, rfl, rfl, hw, FrC.rfl, by omega, CHX.rfl, Or.inl ⟨by omega, rfl⟩⟩
  · refine tn_iload_n dX11_stack_4 rfl 2 rfl ?_
    refine tn_iconst dX11_stack_5 ?_
    refine tn_icmp_gt (tgt := 20) dX11_stack_6 (by decide) ⟨by omega, by omega⟩ ⟨by decide, by decide⟩ (fun h2 => ?_) (fun h2 => ?_)
    · refine tn_iconst dX11_stack_20 ?_
      exact tn_iret rfl dX11_stack_21 ⟨_, rfl, rfl, hw, FrC.rfl, by omega, CHX.rfl, Or.inl ⟨by omega, rfl⟩⟩
    · refine tn_aload_n dX11_stack_9 rfl 0 rfl ?_
      have hk5 : (T rn).1 = 37 := ob_of (wf_103 hw ha) hrn
      have hk5o : OB T rn 7 := ⟨by omega, by rw [hk5]; rfl, by omega⟩
      refine tn_getR (ci := 11) (i := 8) (n := 103) (x := rn) dX11_stack_10 rfl lay_11 (by decide) fl11_83 ha rfl rfl (hrn) ?_
      refine tn_iload_n dX11_stack_13 rfl 1 rfl ?_
      obtain ⟨hk9, hl10⟩ : AR T xa 15 9 9 := ar_of (wf_59 hw hk5o) hxa
      have hk9i : IA T xa := by unfold IA; omega
      obtain ⟨hl14, hk13a, hk13b⟩ := ex_at (wf_61 hw hk5o) hxc
      have hk13 : (T xc).1 = 1 := hk13b (by omega)
      clear hk13a hk13b
      have hk13i : IA T xc := by unfold IA; omega
      obtain ⟨hl18, hk17a, hk17b⟩ := ex_at (wf_55 hw hk5o) hy
      have hk17i : (T y).1 = 4 ∨ (T y).1 = 5 := by omega
      have hk17c : RROW T rn y := ⟨hk17a, hk17b⟩
      clear hk17a hk17b
      refine tn_callV (M := m_X11_stack) (pc := 14) (ix := 214) (ci := 7) (M' := m_X7_find) (As := [.int (iI k)]) (rest := []) dX11_stack_14 ok_X7_find im_X7_find se_X7_find ml11_214 np_X7_find rfl rfl hk5o rfl (Nat.le_of_ble_eq_true rfl) (Nat.le_of_ble_eq_true rfl) rfl (k_X7_find_j (d) (T := T) (σ := σ) (a := rn) (k := k) (xa := xa) (xc := xc) (y := y) hk5o (by omega) hw (hxa) (hxc) (hy)) (fun r19 T21 σ20 gt22 hp => ?_)
      obtain ⟨v27, rfl, rfl, w28, F29, f23, f24, f25, f26⟩ := hp
      clear gt22
      show Tn _ _ 17 T σ20 [(0, .ref a), (1, .int (iI k)), (2, .int (iI w))] [.int (iI v27)] _
      refine tn_if_ne (tgt := 22) dX11_stack_17 (by decide) ⟨by omega, by omega⟩ (fun h30 => ?_) (fun h30 => ?_)
      · refine tn_iload_n dX11_stack_22 rfl 2 rfl ?_
        refine tn_iconst dX11_stack_23 ?_
        refine tn_icmp_ne (tgt := 35) dX11_stack_24 (by decide) ⟨by omega, by omega⟩ ⟨by decide, by decide⟩ (fun h31 => ?_) (fun h31 => ?_)
        · refine tn_iload_n dX11_stack_35 rfl 2 rfl ?_
          refine tn_if_ne (tgt := 49) dX11_stack_36 (by decide) ⟨by omega, by omega⟩ (fun h32 => ?_) (fun h32 => ?_)
          · refine tn_aload_n dX11_stack_49 rfl 0 rfl ?_
            refine tn_getR (ci := 11) (i := 8) (n := 103) (x := rn) dX11_stack_50 rfl lay_11 (by decide) fl11_83 ha rfl rfl (rc_F F29 (Or.inl (by decide)) (by decide) (hrn)) ?_
            refine tn_callV (M := m_X11_stack) (pc := 53) (ix := 224) (ci := 7) (M' := m_X7_foundNames) (As := []) (rest := []) dX11_stack_53 ok_X7_foundNames im_X7_foundNames se_X7_foundNames ml11_224 np_X7_foundNames rfl rfl hk5o rfl (Nat.le_of_ble_eq_true rfl) (Nat.le_of_ble_eq_true rfl) rfl (k_X7_foundNames_j (d + 1) (T := T) (σ := σ20) (a := rn) (xa := xa) (y := y) hk5o w28 (rc_F F29 (Or.inl (by decide)) (by decide) (hxa)) (rc_F F29 (Or.inl (by decide)) (by decide) (hy))) (fun r33 T35 σ34 gt36 hp => ?_)
            obtain ⟨v39, rfl, rfl, rfl, f37, f38⟩ := hp
            clear gt36
            show Tn _ _ 56 T σ20 [(0, .ref a), (1, .int (iI k)), (2, .int (iI w))] [.int (iI v39)] _
            exact tn_iret rfl dX11_stack_56 ⟨_, rfl, rfl, w28, (FrC.rfl.trans (FrC.sub F29 (by decide))), by omega, (CHX.rfl.trans (CHX.sub f24 (by simp) (by simp) (by simp))), Or.inr ⟨by omega, _, f26, Or.inr ⟨by omega, by first | exact Or.inl ⟨by omega, f38⟩ | exact Or.inr (Or.inl ⟨by omega, f38⟩) | exact Or.inr (Or.inr ⟨by omega, f38⟩)⟩⟩⟩
          · refine tn_aload_n dX11_stack_39 rfl 0 rfl ?_
            refine tn_getR (ci := 11) (i := 8) (n := 103) (x := rn) dX11_stack_40 rfl lay_11 (by decide) fl11_83 ha rfl rfl (rc_F F29 (Or.inl (by decide)) (by decide) (hrn)) ?_
            refine tn_callV (M := m_X11_stack) (pc := 43) (ix := 221) (ci := 7) (M' := m_X7_foundRoutine) (As := []) (rest := []) dX11_stack_43 ok_X7_foundRoutine im_X7_foundRoutine se_X7_foundRoutine ml11_221 np_X7_foundRoutine rfl rfl hk5o rfl (Nat.le_of_ble_eq_true rfl) (Nat.le_of_ble_eq_true rfl) rfl (k_X7_foundRoutine_j (d + 1) (T := T) (σ := σ20) (a := rn) (xa := xa) (y := y) hk5o w28 (rc_F F29 (Or.inl (by decide)) (by decide) (hxa)) (rc_F F29 (Or.inl (by decide)) (by decide) (hy))) (fun r40 T42 σ41 gt43 hp => ?_)
            obtain ⟨v46, rfl, rfl, rfl, f44, f45⟩ := hp
            clear gt43
            show Tn _ _ 46 T σ20 [(0, .ref a), (1, .int (iI k)), (2, .int (iI w))] [.int (iI v46)] _
            refine tn_goto (tgt := 56) dX11_stack_46 (by decide) ?_
            exact tn_iret rfl dX11_stack_56 ⟨_, rfl, rfl, w28, (FrC.rfl.trans (FrC.sub F29 (by decide))), by omega, (CHX.rfl.trans (CHX.sub f24 (by simp) (by simp) (by simp))), Or.inr ⟨by omega, _, f26, Or.inr ⟨by omega, by first | exact Or.inl ⟨by omega, f45⟩ | exact Or.inr (Or.inl ⟨by omega, f45⟩) | exact Or.inr (Or.inr ⟨by omega, f45⟩)⟩⟩⟩
        · refine tn_aload_n dX11_stack_27 rfl 0 rfl ?_
          refine tn_getR (ci := 11) (i := 8) (n := 103) (x := rn) dX11_stack_28 rfl lay_11 (by decide) fl11_83 ha rfl rfl (rc_F F29 (Or.inl (by decide)) (by decide) (hrn)) ?_
          obtain ⟨hk49, hl50⟩ : AR T xd 1 108 108 := ar_of (wf_62 hw hk5o) hxd
          have hk49i : IA T xd := by unfold IA; omega
          refine tn_callV (M := m_X11_stack) (pc := 31) (ix := 218) (ci := 7) (M' := m_X7_foundLine) (As := []) (rest := []) dX11_stack_31 ok_X7_foundLine im_X7_foundLine se_X7_foundLine ml11_218 np_X7_foundLine rfl rfl hk5o rfl (Nat.le_of_ble_eq_true rfl) (Nat.le_of_ble_eq_true rfl) rfl (k_X7_foundLine_j (d + 2) (T := T) (σ := σ20) (a := rn) (xd := xd) hk5o w28 (rc_F F29 (Or.inl (by decide)) (by decide) (hxd))) (fun r51 T53 σ52 gt54 hp => ?_)
          obtain ⟨v57, rfl, rfl, rfl, f55, f56⟩ := hp
          clear gt54
          show Tn _ _ 34 T σ20 [(0, .ref a), (1, .int (iI k)), (2, .int (iI w))] [.int (iI v57)] _
          exact tn_iret rfl dX11_stack_34 ⟨_, rfl, rfl, w28, (FrC.rfl.trans (FrC.sub F29 (by decide))), by omega, (CHX.rfl.trans (CHX.sub f24 (by simp) (by simp) (by simp))), Or.inr ⟨by omega, _, f26, Or.inr ⟨by omega, by first | exact Or.inl ⟨by omega, f56⟩ | exact Or.inr (Or.inl ⟨by omega, f56⟩) | exact Or.inr (Or.inr ⟨by omega, f56⟩)⟩⟩⟩
      · refine tn_iconst dX11_stack_20 ?_
        exact tn_iret rfl dX11_stack_21 ⟨_, rfl, rfl, w28, (FrC.rfl.trans (FrC.sub F29 (by decide))), by omega, (CHX.rfl.trans (CHX.sub f24 (by simp) (by simp) (by simp))), Or.inr ⟨by omega, _, f26, Or.inl ⟨by omega, rfl⟩⟩⟩
end
section
theorem AB.le {σ : MS} {m c : Int} : ∀ n : Nat, 9 * m - 1 ≤ c - n → AB σ m c ≤ AB σ m (c - n) := by
  intro n
  induction n with
  | zero => intro _; rw [show c - ((0 : Nat) : Int) = c by omega]; exact Int.le_refl _
  | succ n ih =>
    intro h
    have q := ih (by omega)
    have s := AB.nx (σ := σ) (m := m) (c := c - n) (by omega)
    have r := (ch_rng (p := pr σ m (c - n)) 13 (σ.2.1 80 (c - n))).1
    rw [show c - ((n + 1 : Nat) : Int) = c - n - 1 by omega, s]
    unfold dch
    omega
theorem fnd_lt {σ : MS} {m k c c' i j : Int} (h1 : k = AB σ m c + i) (i0 : 0 ≤ i) (h2 : k = AB σ m c' + j) (j1 : j < dch σ m c') (c0 : 9 * m ≤ c) : ¬ c < c' := fun z => by
  have q := AB.le (σ := σ) (m := m) (c := c' - 1) (c' - 1 - c).toNat (by omega)
  rw [show c' - 1 - ((c' - 1 - c).toNat : Int) = c by omega, AB.nx (by omega)] at q
  omega
theorem fnd_one {σ : MS} {m k c c' i j : Int} (h1 : k = AB σ m c + i) (i0 : 0 ≤ i) (i1 : i < dch σ m c) (h2 : k = AB σ m c' + j) (j0 : 0 ≤ j) (j1 : j < dch σ m c') (c0 : 9 * m ≤ c) (c1 : 9 * m ≤ c') : c = c' ∧ i = j := by
  have a := fnd_lt h1 i0 h2 j1 c0
  have b := fnd_lt h2 j0 h1 i1 c1
  have e : c = c' := by omega
  refine ⟨e, ?_⟩
  rw [e] at h1
  omega
theorem jU_it {P Q : Int → Int} {F : Int} (hF : F ≤ 12) (hp : ∀ f, 0 ≤ f → f < F → -1 ≤ Q f ∧ Q f < f) (e : ∀ f, 0 ≤ f → f < F → P f = Q f) : ∀ (i : Nat) (f : Int), -1 ≤ f → f < F → (i : Int) < ch Q 13 f → jU P i f = itU Q i f ∧ 0 ≤ itU Q i f ∧ itU Q i f < F := by
  have cs : ∀ f, 0 ≤ f → f < F → ch Q 13 f = 1 + ch Q 13 (Q f) := fun f a b => by
    have q := hp f a b
    rw [show ch Q 13 f = 1 + ch Q 12 (Q f) by
      show (if f = -1 then 0 else 1 + ch Q 12 (Q f)) = _
      rw [if_neg (by omega)], ch_fuel hp 12 13 (Q f) q.1 (by omega) (by omega) (by omega)]
  intro i
  induction i with
  | zero =>
    intro f a b d
    have f0 : 0 ≤ f := by
      by_cases z : f = -1
      · rw [z, ch_m1] at d; omega
      · omega
    exact ⟨rfl, f0, b⟩
  | succ i ih =>
    intro f a b d
    have f0 : 0 ≤ f := by
      by_cases z : f = -1
      · rw [z, ch_m1] at d; omega
      · omega
    have q := hp f f0 b
    have s := cs f f0 b
    have z := ih (Q f) q.1 (by omega) (by omega)
    show jU P i (P f) = (if f < 0 then f else itU Q i (Q f)) ∧ 0 ≤ (if f < 0 then f else itU Q i (Q f)) ∧ (if f < 0 then f else itU Q i (Q f)) < F
    rw [if_neg (by omega), e f f0 b]
    exact z
section STK7
variable {T : CT} {σ σ2 τ : MS} {a xa xb xc xd xe xf y : Nat} {C : Int → Nat} {k v v2 w u r : Int}
theorem of7 (hc : RCX T σ τ a xa xb xc xd xe xf (C r) r) {f : Int} (f0 : 0 ≤ f) (f1 : f < τ.2.1 14 r) : rwF σ 11 (C r) f = τ.2.1 15 (12 * r + f) := by
  have e := hc.2.1.1
  have eF : σ.2.1 10 (C r) = τ.2.1 14 r := congrArg RTS.F e
  have ei := congrFun (congrArg RTS.fo e) f
  have ei : (if 0 ≤ f ∧ f < σ.2.1 10 (C r) then rwF σ 11 (C r) f else 0) = (if 0 ≤ f ∧ f < τ.2.1 14 r then τ.2.1 15 (12 * r + f) else 0) := ei
  rw [if_pos ⟨f0, by omega⟩, if_pos ⟨f0, f1⟩] at ei
  exact ei
theorem nm7 (hc : RCX T σ τ a xa xb xc xd xe xf (C r) r) {f : Int} (f0 : 0 ≤ f) (f1 : f < τ.2.1 14 r) : rwF σ 14 (C r) f = τ.2.1 12 (τ.2.1 15 (12 * r + f)) := by
  have eF : σ.2.1 10 (C r) = τ.2.1 14 r := congrArg RTS.F hc.2.1.1
  have q := (hc.2.2.1.2.2 f f0 (by omega)).2
  rw [← q, of7 hc f0 f1]
theorem jFD_of {n : Int → Int} (hn : ∀ c, 0 ≤ c → c < τ.2.1 73 0 → n c = dch τ 0 c) (hk : k < dpt τ 0) : ∀ (t : Nat) (c l : Int), c + 1 = (t : Int) → c < τ.2.1 73 0 → 0 ≤ l → l = k - AB τ 0 c → ∃ c' l', jFD n t c l = (c', l') ∧ (0 ≤ c' ∧ c' < τ.2.1 73 0) ∧ l' = k - AB τ 0 c' ∧ 0 ≤ l' ∧ l' < dch τ 0 c' := by
  intro t
  induction t with
  | zero =>
    intro c l a b d e
    have q := AB.bot (σ := τ) (m := 0) (c := c) (by omega)
    omega
  | succ t ih =>
    intro c l a b d e
    have q := hn c (by omega) b
    show ∃ c' l', (if c < 0 then (-1, l) else if l < n c then (c, l) else jFD n t (c - 1) (l - n c)) = (c', l') ∧ _
    rw [if_neg (by omega)]
    by_cases z : l < n c
    · rw [if_pos z]; exact ⟨c, l, rfl, ⟨by omega, b⟩, e, d, by omega⟩
    · rw [if_neg z]
      have s := AB.nx (σ := τ) (m := 0) (c := c) (by omega)
      exact ih (c - 1) (l - n c) (by omega) (by omega) (by omega) (by omega)
def FD7 (T : CT) (σ2 : MS) (a xa y : Nat) (C : Int → Nat) (τ : MS) (k : Int) : Prop := ∃ (c : Int) (i : Nat), (0 ≤ c ∧ c < τ.2.1 73 0) ∧ k = AB τ 0 c + i ∧ (i : Int) < dch τ 0 c ∧ σ2.2.1 70 a = c ∧ σ2.2.1 71 a = itU (pr τ 0 c) i (τ.2.1 80 c) ∧ (0 ≤ σ2.2.1 71 a ∧ σ2.2.1 71 a < τ.2.1 14 (τ.2.1 78 c)) ∧ jC σ2 y (jA T xa (σ2.2.1 70 a) σ2) = (C (τ.2.1 78 c) : Int)
theorem FD7.one {c f : Int} (h : FD7 T σ2 a xa y C τ k) (g : FNDS τ 0 k c f) : σ2.2.1 70 a = c ∧ σ2.2.1 71 a = f ∧ (0 ≤ c ∧ c < τ.2.1 73 0) ∧ (∃ i : Nat, itU (pr τ 0 c) i (τ.2.1 80 c) = f) ∧ (0 ≤ f ∧ f < τ.2.1 14 (τ.2.1 78 c)) ∧ jC σ2 y (jA T xa c σ2) = (C (τ.2.1 78 c) : Int) := by
  obtain ⟨c1, i, h1, h2, h3, h4, h5, h6, h7⟩ := h
  obtain ⟨g1, j, g2, g3, g4⟩ := g
  have q := fnd_one h2 (by omega) h3 g2 (by omega) g3 (by omega) (by omega)
  have ei : i = j := by omega
  obtain ⟨q, -⟩ := q
  subst q
  subst ei
  rw [h4] at h7
  rw [← g4] at h5
  rw [h5] at h6
  exact ⟨h4, h5, h1, ⟨i, g4.symm⟩, h6, h7⟩
theorem find7 (hx : RXC σ a xa xb xc xd xe C τ) (hw : RWF T σ a xa xb xc xd xe xf y C τ) (gd : GDA τ) (hr : RUN τ 0) (st : σ.2.1 56 a = 1 ∨ σ.2.1 56 a = 3) (ch : CHX [(70, a), (71, a)] [] [] σ σ2) (hj : JFN T σ a xa xc y k u σ2) : (u = 0 ∧ (k < 0 ∨ dpt τ 0 ≤ k)) ∨ (u = 1 ∧ (0 ≤ k ∧ k < dpt τ 0) ∧ FD7 T σ2 a xa y C τ k) := by
  have h73 := hx.1.1
  have h57 := hx.1.2
  have h58 := hx.2.1
  have l := hw.2.1
  have t6 := gd.1
  have rw0 : ∀ x : Nat, σ2.2.1 (1000 + x) = σ.2.1 (1000 + x) := fun x => ch.r (by simp)
  have hn : ∀ c, 0 ≤ c → c < τ.2.1 73 0 → jCV T σ xa xc y c = dch τ 0 c := fun c a b => (jCV.of hx hw gd hr a b).trans dch_dp.symm
  have ea : ∀ c, 0 ≤ c → c < τ.2.1 73 0 → jA T xa c σ = τ.2.1 78 c ∧ jC σ y (jA T xa c σ) = (C (τ.2.1 78 c) : Int) ∧ jA T xc c σ = τ.2.1 80 c := fun c c0 c1 => by
    have k := (hx.2.2.2 c c0 c1).1
    have rc := run_c hr c0 c1
    have e : jA T xa c σ = τ.2.1 78 c := by rw [jA_in (by omega)]; exact k.1
    refine ⟨e, ?_, by rw [jA_in (by omega)]; exact k.2.2⟩
    rw [e]
    unfold jC
    rw [if_pos (by omega)]
    exact hw.2.2.1.1 _ rc.1.1 (by omega)
  by_cases kk : 0 ≤ k ∧ k < dpt τ 0
  · have tp := AB.top (σ := τ) (m := 0) (c := σ.2.1 57 a) (by omega) (by omega)
    obtain ⟨c, l', e0, c0, e1, e2, e3⟩ := jFD_of (τ := τ) (n := jCV T σ xa xc y) hn kk.2 (σ.2.1 57 a + 1).toNat (σ.2.1 57 a) k (by omega) (by omega) kk.1 (by omega)
    have w := ea c c0.1 c0.2
    rcases hj with ⟨j1, j2⟩ | ⟨j1, -, -, c2, l2, cc, j4, j5, j6, j7, j8⟩
    · rw [e0] at j2
      rcases j2 with j2 | j2 | j2
      · omega
      · have j2 : c < 0 := j2
        omega
      · have j2 : jC σ y (jA T xa c σ) < 0 := j2
        omega
    · rw [e0] at j4
      have ec : c2 = c := (congrArg Prod.fst j4).symm
      have el : l2 = l' := (congrArg Prod.snd j4).symm
      subst ec
      subst el
      have rc := run_c hr c0.1 c0.2
      have hc := hw.2.2.2 _ rc.1.1 rc.1.2
      have gr := gd.2 _ rc.1.1 rc.1.2
      have F12 := gr.2.1.1
      have l12 := hc.2.2.2.2.1.2.1
      have ecc : cc = C (τ.2.1 78 c2) := by omega
      rw [w.2.2, ecc] at j8
      have de := RUN.dec hr (gd.bka (m := 0) (by decide)).2 t6.2 c2 (by omega) (by omega)
      have fn0 : fn τ 0 c2 = τ.2.1 14 (τ.2.1 78 c2) := if_neg (by decide)
      rw [fn0] at de
      have it := jU_it (P := fun f => jA T (adN σ 12 (C (τ.2.1 78 c2))) f σ) (Q := pr τ 0 c2) (F := τ.2.1 14 (τ.2.1 78 c2)) (by omega) de.2.2 (fun f f0 f1 => by
        show jA T (adN σ 12 (C (τ.2.1 78 c2))) f σ = _
        rw [jA_in (by omega)]
        exact (par7 hc f0 f1).trans (if_neg (by decide)).symm) l2.toNat (τ.2.1 80 c2) de.2.1.1 de.2.1.2.1 (by unfold dch at e3; omega)
      rw [it.1] at j8
      refine Or.inr ⟨j1, kk, c2, l2.toNat, c0, by omega, by omega, j6, j8, by rw [j8]; exact it.2, ?_⟩
      rw [j6]
      unfold jC
      rw [rw0, jA_cg (rw0 xa)]
      exact w.2.1
  · rcases hj with ⟨j1, -⟩ | ⟨j1, j2, -⟩
    · exact Or.inl ⟨j1, by omega⟩
    · omega
theorem stack7 (h : L7R σ a xa xb xc xd xe xf C τ) (hw : RWF T σ a xa xb xc xd xe xf y C τ) (gd : GDA τ) (hr : τ.1 67 ≠ 0 → τ.1 68 = 0 → RUN τ 0) (wt : WT T σ) (ob : ∀ r, 0 ≤ r → r < 6 → OB T (C r) 1) (ch : CHX [(70, a), (71, a)] [] [] σ σ2) (hc : JSK T σ a xa xc xd y k w v σ2) (hm : SKA τ k w v2) : v = v2 := by
  have no : ¬ (σ.2.1 56 a = 1 ∨ σ.2.1 56 a = 3) → (τ.1 67 = 0 ∨ τ.1 68 ≠ 0) → v = v2 := fun h1 h2 => by
    have e1 : v = -1 := by
      rcases hc with ⟨-, c⟩ | ⟨-, u, c1, c2⟩
      · exact c
      · rcases c2 with c2 | c2
        · exact c2.2
        · rcases c1 with c1 | c1
          · omega
          · exact absurd c1.2.2.1 h1
    rcases hm with m | m
    · rw [e1, m.1]
    · have := m.1; omega
  have go : (σ.2.1 56 a = 1 ∨ σ.2.1 56 a = 3) → τ.1 67 ≠ 0 → τ.1 68 = 0 → RXC σ a xa xb xc xd xe C τ → v = v2 := fun s5 t67 t68 rx => by
    have r := hr t67 t68
    rcases hc with ⟨c1, c2⟩ | ⟨c1, u, c2, c3⟩
    · rcases hm with m | ⟨-, c, f, -, m⟩
      · rw [c2, m.1]
      · rcases m with m | m | m | m
        · omega
        · omega
        · omega
        · rw [c2, m.2]
    · rcases find7 rx hw gd r s5 ch c2 with ⟨u0, nk⟩ | ⟨u1, kk, fd⟩
      · have e1 : v = -1 := by
          rcases c3 with c3 | c3
          · exact c3.2
          · omega
        rcases hm with m | ⟨-, c, f, fn, m⟩
        · rw [e1, m.1]
        · have k1 : 0 ≤ k ∧ k < dpt τ 0 := by
            obtain ⟨g1, j, g2, g3, -⟩ := fn
            have q := AB.nx (σ := τ) (m := 0) (c := c) (by omega)
            have b := AB.le (σ := τ) (m := 0) (c := c - 1) c.toNat (by omega)
            rw [show c - 1 - (c.toNat : Int) = -1 by omega, AB.bot (σ := τ) (m := 0) (c := -1) (by decide)] at b
            have tp := AB.top (σ := τ) (m := 0) (c := τ.2.1 73 0 - 1) (by omega) (by omega)
            have a := AB.le (σ := τ) (m := 0) (c := τ.2.1 73 0 - 1) (τ.2.1 73 0 - 1 - c).toNat (by omega)
            rw [show τ.2.1 73 0 - 1 - ((τ.2.1 73 0 - 1 - c).toNat : Int) = c by omega] at a
            omega
          omega
      · rcases hm with ⟨-, m⟩ | ⟨-, c, f, fn, m⟩
        · omega
        · obtain ⟨e70, e71, cc, ⟨i, hi⟩, ff, jc⟩ := fd.one fn
          have rc := run_c r cc.1 cc.2
          have t6 := gd.1
          have hcx := hw.2.2.2 _ rc.1.1 rc.1.2
          have F12 := (gd.2 _ rc.1.1 rc.1.2).2.1.1
          have oc := ob _ rc.1.1 (by omega)
          have rw0 : ∀ x : Nat, σ2.2.1 (1000 + x) = σ.2.1 (1000 + x) := fun x => ch.r (by simp)
          have fd0 : ∀ n : Nat, n < 70 → ∀ b : Nat, σ2.2.1 n (b : Int) = σ.2.1 n b := fun n hn b => ch.1 n b (by omega) (fun p hp e => by
            simp only [List.mem_cons, List.not_mem_nil, or_false] at hp
            rcases hp with rfl | rfl <;> (have e : (_ : Nat) = n := e; omega))
          have l := hw.2.1
          have jr : ∀ (n : Nat) (z x9 : Int), n < 70 → JFR T σ2 a xa y n z x9 → ∃ x : Nat, σ.2.1 n (C (τ.2.1 78 c)) = (x : Int) ∧ x9 = jA T x f σ := fun n z x9 hn q => by
            rcases q with q | ⟨c9, x, q1, q2, q3⟩
            · rw [e70] at q; omega
            · rw [e70] at q1
              have e9 : c9 = C (τ.2.1 78 c) := by omega
              rw [e9, fd0 n hn] at q2
              rw [e71, jA_cg (rw0 x)] at q3
              exact ⟨x, q2, q3⟩
          rcases c3 with c3 | ⟨-, c3⟩
          · omega
          · rcases c3 with ⟨w0, c3⟩ | ⟨w1, c3⟩ | ⟨w2, c3⟩
            · obtain ⟨x, x1, x2⟩ := jr 11 _ _ (by decide) c3
              have k11 := ex_at (wf_11 wt oc) x1
              have e := of7 hcx ff.1 ff.2
              unfold rwF at e
              rw [adN_of x1] at e
              rw [x2, jA_in (by have := k11.2; omega), e]
              rcases m with m | m | m | m
              · exact m.2.symm
              · omega
              · omega
              · omega
            · have hln := (rx.2.2.2 c cc.1 cc.2).2.2 f (by omega) ⟨ff.1, i, hi⟩
              rw [e70, e71, w32_id (show -2147483648 ≤ c * 12 ∧ c * 12 ≤ 2147483647 by have := r.1; omega), w32_id (by have := r.1; omega), jA_cg (rw0 xd), jA_in (by have := r.1; omega), hln] at c3
              rcases m with m | m | m | m
              · omega
              · rw [c3]; exact m.2.symm
              · omega
              · omega
            · obtain ⟨x, x1, x2⟩ := jr 14 _ _ (by decide) c3
              have k14 := ex_at (wf_14 wt oc) x1
              have e := nm7 hcx ff.1 ff.2
              unfold rwF at e
              rw [adN_of x1] at e
              rw [x2, jA_in (by have := k14.2; omega), e]
              rcases m with m | m | m | m
              · omega
              · omega
              · exact m.2.symm
              · omega
  rcases h with ⟨h1, h2⟩ | ⟨h1, -, -, h⟩
  · exact no (by omega) (Or.inl h2)
  · rcases h with ⟨h2, h3, h4, h5⟩ | ⟨h2, h3, h4, h5⟩ | ⟨h2, h3, -⟩
    · exact go (Or.inl h2) h1 h3 h5
    · exact go (Or.inr h2) h1 h3 h5
    · exact no (by omega) (Or.inr h3)
end STK7
end
