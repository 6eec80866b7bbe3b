theorem cd_X3_findLiving : Cond.code yX3_findLiving cX3_findLiving 5 none ∈ pWW := pw5 (List.mem_of_getElem? (i := 25) rfl) rfl
abbrev m_X3_findLiving : MT := (yX3_findLiving, cX3_findLiving, 5, none)
theorem ok_X3_findLiving : pOk m_X3_findLiving := ⟨⟨cd_X3_findLiving, ini_3⟩, by decide +kernel, ⟨by decide +kernel, by decide +kernel⟩, Nat.le_of_ble_eq_true rfl⟩
theorem np_X3_findLiving : (parseMethodDescriptor yX3_findLiving.desc).map (fun d => d.parameters.length) = some 1 := by decide +kernel
theorem im_X3_findLiving : Cond.instanceMethod yX3_findLiving ∈ pWW := pw5 (List.mem_of_getElem? (i := 23) rfl) rfl
theorem se_X3_findLiving : Cond.selects RX3 yX3_findLiving yX3_findLiving ∈ pWW := pw5 (List.mem_of_getElem? (i := 24) rfl) rfl
theorem fl3_29 : Cond.fieldLink RX3 29 (TX1 1).1 (TX1 1).2.1 (TX1 1).2.2.1 ∈ pWW := pw1 (List.mem_of_getElem? (i := 82) rfl) rfl
theorem nl3_35 : (RX3, 35, yX11_clear, "LineKeeper") ∈ nst_M := List.mem_of_getElem? (i := 24) rfl
theorem cst3_39 : Cond.constant RX3 39 (1000000) ∈ pWW := pw5 (List.mem_of_getElem? (i := 13) rfl) rfl
theorem ml3_40 : Cond.methodLink RX3 40 yX3_gatherBehind ∈ pWW := pw5 (List.mem_of_getElem? (i := 33) rfl) rfl
theorem ml3_44 : Cond.methodLink RX3 44 yX3_settleAhead ∈ pWW := pw5 (List.mem_of_getElem? (i := 43) rfl) rfl
theorem dX3_findLiving_0 : decode cX3_findLiving 0 = .ok (.aload_n 0, 1) := by decide +kernel
theorem dX3_findLiving_1 : decode cX3_findLiving 1 = .ok (.getfield 9, 3) := by decide +kernel
theorem dX3_findLiving_4 : decode cX3_findLiving 4 = .ok (.aload_n 1, 1) := by decide +kernel
theorem dX3_findLiving_5 : decode cX3_findLiving 5 = .ok (.getfield 29, 3) := by decide +kernel
theorem dX3_findLiving_8 : decode cX3_findLiving 8 = .ok (.iconst 1, 1) := by decide +kernel
theorem dX3_findLiving_9 : decode cX3_findLiving 9 = .ok (.iadd, 1) := by decide +kernel
theorem dX3_findLiving_10 : decode cX3_findLiving 10 = .ok (.iconst 3, 1) := by decide +kernel
theorem dX3_findLiving_11 : decode cX3_findLiving 11 = .ok (.imul, 1) := by decide +kernel
theorem dX3_findLiving_12 : decode cX3_findLiving 12 = .ok (.invokestatic 35, 3) := by decide +kernel
theorem dX3_findLiving_15 : decode cX3_findLiving 15 = .ok (.iconst 1, 1) := by decide +kernel
theorem dX3_findLiving_16 : decode cX3_findLiving 16 = .ok (.istore_n 2, 1) := by decide +kernel
theorem dX3_findLiving_17 : decode cX3_findLiving 17 = .ok (.iconst 0, 1) := by decide +kernel
theorem dX3_findLiving_18 : decode cX3_findLiving 18 = .ok (.istore_n 3, 1) := by decide +kernel
theorem dX3_findLiving_19 : decode cX3_findLiving 19 = .ok (.iload_n 2, 1) := by decide +kernel
theorem dX3_findLiving_20 : decode cX3_findLiving 20 = .ok (.ifCond .eq 53, 3) := by decide +kernel
theorem dX3_findLiving_23 : decode cX3_findLiving 23 = .ok (.iload_n 3, 1) := by decide +kernel
theorem dX3_findLiving_24 : decode cX3_findLiving 24 = .ok (.ldc 39, 2) := by decide +kernel
theorem dX3_findLiving_26 : decode cX3_findLiving 26 = .ok (.if_icmp .ge 47, 3) := by decide +kernel
theorem dX3_findLiving_29 : decode cX3_findLiving 29 = .ok (.iconst 0, 1) := by decide +kernel
theorem dX3_findLiving_30 : decode cX3_findLiving 30 = .ok (.istore_n 2, 1) := by decide +kernel
theorem dX3_findLiving_31 : decode cX3_findLiving 31 = .ok (.aload_n 1, 1) := by decide +kernel
theorem dX3_findLiving_32 : decode cX3_findLiving 32 = .ok (.getfield 29, 3) := by decide +kernel
theorem dX3_findLiving_35 : decode cX3_findLiving 35 = .ok (.iconst 1, 1) := by decide +kernel
theorem dX3_findLiving_36 : decode cX3_findLiving 36 = .ok (.isub, 1) := by decide +kernel
theorem dX3_findLiving_37 : decode cX3_findLiving 37 = .ok (.istore 4, 2) := by decide +kernel
theorem dX3_findLiving_39 : decode cX3_findLiving 39 = .ok (.iload 4, 2) := by decide +kernel
theorem dX3_findLiving_41 : decode cX3_findLiving 41 = .ok (.ifCond .lt 26, 3) := by decide +kernel
theorem dX3_findLiving_44 : decode cX3_findLiving 44 = .ok (.aload_n 0, 1) := by decide +kernel
theorem dX3_findLiving_45 : decode cX3_findLiving 45 = .ok (.aload_n 1, 1) := by decide +kernel
theorem dX3_findLiving_46 : decode cX3_findLiving 46 = .ok (.iload 4, 2) := by decide +kernel
theorem dX3_findLiving_48 : decode cX3_findLiving 48 = .ok (.invokevirtual 40, 3) := by decide +kernel
theorem dX3_findLiving_51 : decode cX3_findLiving 51 = .ok (.iload_n 2, 1) := by decide +kernel
theorem dX3_findLiving_52 : decode cX3_findLiving 52 = .ok (.aload_n 0, 1) := by decide +kernel
theorem dX3_findLiving_53 : decode cX3_findLiving 53 = .ok (.aload_n 1, 1) := by decide +kernel
theorem dX3_findLiving_54 : decode cX3_findLiving 54 = .ok (.iload 4, 2) := by decide +kernel
theorem dX3_findLiving_56 : decode cX3_findLiving 56 = .ok (.invokevirtual 44, 3) := by decide +kernel
theorem dX3_findLiving_59 : decode cX3_findLiving 59 = .ok (.ior, 1) := by decide +kernel
theorem dX3_findLiving_60 : decode cX3_findLiving 60 = .ok (.istore_n 2, 1) := by decide +kernel
theorem dX3_findLiving_61 : decode cX3_findLiving 61 = .ok (.iinc 4 (-1), 3) := by decide +kernel
theorem dX3_findLiving_64 : decode cX3_findLiving 64 = .ok (.goto (-25), 3) := by decide +kernel
set_option maxRecDepth 20000 in
theorem l_X3_findLiving_39 (d : Nat) {T : CT} {σ0 : MS} {a : Nat} {rx1 : Nat} {c3 : Int} {post : Option Value → CT → MS → Prop} (h_a : OB T a 3) (h_rx1 : OB T rx1 1) (r_c3 : 0 ≤ c3 ∧ c3 ≤ 999999) (hw0 : WT T σ0) (hx_67 : ∀ (i2 : Int) (i4 : Int) (σ : MS) , (WT T σ) → (FrC T [] σ0 σ) → (0 ≤ i2 ∧ i2 ≤ 1) → (-1 ≤ i4 ∧ i4 ≤ 4999) → Tn (d + 4) m_X3_findLiving 67 T σ [(0, .ref a), (1, .ref rx1), (2, .int (iI i2)), (3, .int (iI c3)), (4, .int (iI i4))] [] post) : ∀ (n : Nat) (i2 : Int) (i4 : Int) (σ : MS) , (WT T σ) → (FrC T [] σ0 σ) → (0 ≤ i2 ∧ i2 ≤ 1) → (-1 ≤ i4 ∧ i4 ≤ 4999) → (i4 + 20).toNat = n → Tn (d + 4) m_X3_findLiving 39 T σ [(0, .ref a), (1, .ref rx1), (2, .int (iI i2)), (3, .int (iI c3)), (4, .int (iI i4))] [] post := by
  intro n
  induction n using Nat.strongRecOn with
  | _ n ih =>
    intro i2 i4 σ hw hF r_i2 r_i4 hm
    refine tn_iload dX3_findLiving_39 4 rfl ?_
    refine tn_if_lt (tgt := 67) dX3_findLiving_41 (by decide) ⟨by omega, by omega⟩ (fun h1 => ?_) (fun h1 => ?_)
    · exact tn_sub [0, 1, 2, 3, 4] rfl (hx_67 (i2) (i4) σ hw (FrC.rfl.trans (FrC.sub hF (by decide))) (by omega) (by omega))
    · refine tn_aload_n dX3_findLiving_44 rfl 0 rfl ?_
      refine tn_aload_n dX3_findLiving_45 rfl 1 rfl ?_
      refine tn_iload dX3_findLiving_46 4 rfl ?_
      refine tn_callV (M := m_X3_findLiving) (pc := 48) (ix := 40) (ci := 3) (M' := m_X3_gatherBehind) (As := [.ref rx1, .int (iI i4)]) (rest := []) dX3_findLiving_48 ok_X3_gatherBehind im_X3_gatherBehind se_X3_gatherBehind ml3_40 np_X3_gatherBehind rfl rfl h_a rfl (Nat.le_of_ble_eq_true rfl) (Nat.le_of_ble_eq_true rfl) rfl (k_X3_gatherBehind (d) (T := T) (σ := σ) (a := a) (p1 := rx1) (p2 := i4) h_a h_rx1 (by omega) hw ) (fun r2 T4 σ3 gt5 hp => ?_)
      obtain ⟨rfl, rfl, w7, F8⟩ := hp
      clear gt5
      show Tn _ _ 51 T σ3 [(0, .ref a), (1, .ref rx1), (2, .int (iI i2)), (3, .int (iI c3)), (4, .int (iI i4))] [] _
      refine tn_iload_n dX3_findLiving_51 rfl 2 rfl ?_
      refine tn_aload_n dX3_findLiving_52 rfl 0 rfl ?_
      refine tn_aload_n dX3_findLiving_53 rfl 1 rfl ?_
      refine tn_iload dX3_findLiving_54 4 rfl ?_
      refine tn_callV (M := m_X3_findLiving) (pc := 56) (ix := 44) (ci := 3) (M' := m_X3_settleAhead) (As := [.ref rx1, .int (iI i4)]) (rest := [.int (iI i2)]) dX3_findLiving_56 ok_X3_settleAhead im_X3_settleAhead se_X3_settleAhead ml3_44 np_X3_settleAhead rfl rfl h_a rfl (Nat.le_of_ble_eq_true rfl) (Nat.le_of_ble_eq_true rfl) rfl (k_X3_settleAhead (d) (T := T) (σ := σ3) (a := a) (p1 := rx1) (p2 := i4) h_a h_rx1 (by omega) w7 ) (fun r9 T11 σ10 gt12 hp => ?_)
      obtain ⟨v14, rfl, rfl, w15, F16, f13⟩ := hp
      clear gt12
      show Tn _ _ 59 T σ10 [(0, .ref a), (1, .ref rx1), (2, .int (iI i2)), (3, .int (iI c3)), (4, .int (iI i4))] [.int (iI v14), .int (iI i2)] _
      refine tn_ior dX3_findLiving_59 ?_
      refine tn_bor (x := i2) (y := v14) (by omega) (by omega) (fun z19 g20 => ?_)
      refine tn_istore_n (L' := [(2, .int (iI z19)), (0, .ref a), (1, .ref rx1), (3, .int (iI c3)), (4, .int (iI i4))]) dX3_findLiving_60 rfl (by decide) rfl ?_
      refine tn_iinc (q0 := 4) (L' := [(4, .int (iI (i4 + (-1)))), (2, .int (iI z19)), (0, .ref a), (1, .ref rx1), (3, .int (iI c3))]) dX3_findLiving_61 rfl (by decide) rfl ?_
      refine tn_goto (tgt := 39) dX3_findLiving_64 (by decide) ?_
      exact tn_sub [2, 3, 1, 4, 0] rfl (ih _ (by omega) (z19) (i4 + (-1)) σ10 w15 (((FrC.rfl.trans (FrC.sub hF (by decide))).trans (FrC.sub F8 (by decide))).trans (FrC.sub F16 (by decide))) (by omega) (by omega) rfl)
theorem dX3_findLiving_67 : decode cX3_findLiving 67 = .ok (.iinc 3 1, 3) := by decide +kernel
theorem dX3_findLiving_70 : decode cX3_findLiving 70 = .ok (.goto (-51), 3) := by decide +kernel
set_option maxRecDepth 20000 in
theorem l_X3_findLiving_19 (d : Nat) {T : CT} {σ0 : MS} {a : Nat} {rx1 : Nat} {post : Option Value → CT → MS → Prop} (h_a : OB T a 3) (h_rx1 : OB T rx1 1) (hw0 : WT T σ0) (hx_73 : ∀ (i2 : Int) (i3 : Int) (σ : MS) , (WT T σ) → (FrC T [] σ0 σ) → (0 ≤ i2 ∧ i2 ≤ 1) → (0 ≤ i3 ∧ i3 ≤ 2147483647) → Tn (d + 4) m_X3_findLiving 73 T σ [(0, .ref a), (1, .ref rx1), (2, .int (iI i2)), (3, .int (iI i3))] [] post) : ∀ (n : Nat) (i2 : Int) (i3 : Int) (σ : MS) , (WT T σ) → (FrC T [] σ0 σ) → (0 ≤ i2 ∧ i2 ≤ 1) → (0 ≤ i3 ∧ i3 ≤ 2147483647) → (2147483700 - i3).toNat = n → Tn (d + 4) m_X3_findLiving 19 T σ [(0, .ref a), (1, .ref rx1), (2, .int (iI i2)), (3, .int (iI i3))] [] post := by
  intro n
  induction n using Nat.strongRecOn with
  | _ n ih =>
    intro i2 i3 σ hw hF r_i2 r_i3 hm
    refine tn_iload_n dX3_findLiving_19 rfl 2 rfl ?_
    refine tn_if_eq (tgt := 73) dX3_findLiving_20 (by decide) ⟨by omega, by omega⟩ (fun h1 => ?_) (fun h1 => ?_)
    · exact tn_sub [0, 1, 2, 3] rfl (hx_73 (i2) (i3) σ hw (FrC.rfl.trans (FrC.sub hF (by decide))) (by omega) (by omega))
    · refine tn_iload_n dX3_findLiving_23 rfl 3 rfl ?_
      refine tn_ldc (n := 1000000) dX3_findLiving_24 cst3_39 rfl ?_
      refine tn_icmp_ge (tgt := 73) dX3_findLiving_26 (by decide) ⟨by omega, by omega⟩ ⟨by decide, by decide⟩ (fun h2 => ?_) (fun h2 => ?_)
      · exact tn_sub [0, 1, 2, 3] rfl (hx_73 (i2) (i3) σ hw (FrC.rfl.trans (FrC.sub hF (by decide))) (by omega) (by omega))
      · refine tn_iconst dX3_findLiving_29 ?_
        refine tn_istore_n (L' := [(2, .int (iI 0)), (0, .ref a), (1, .ref rx1), (3, .int (iI i3))]) dX3_findLiving_30 rfl (by decide) rfl ?_
        refine tn_aload_n dX3_findLiving_31 rfl 2 rfl ?_
        refine tn_getI (ci := 1) (i := 1) (n := 6) (t := σ0.2.1 6 rx1) dX3_findLiving_32 rfl lay_1 (by decide) fl3_29 h_rx1 rfl rfl (rc_F hF (Or.inl (by decide)) (by decide) (rfl)) ?_
        have g3 : ((0 : Int) ≤ σ0.2.1 6 rx1 ∧ σ0.2.1 6 rx1 ≤ 5000) ∧ ((T rx1).1 = 50 → σ0.2.1 6 rx1 ≤ 200) := wf_6 hw0 h_rx1
        have g3x := g3.2
        replace g3 := g3.1
        clear g3x
        refine tn_iconst dX3_findLiving_35 ?_
        refine tn_isub dX3_findLiving_36 ?_
        refine tn_istore (L' := [(4, .int (iI ((σ0.2.1 6 rx1) - 1))), (2, .int (iI 0)), (0, .ref a), (1, .ref rx1), (3, .int (iI i3))]) dX3_findLiving_37 (by decide) rfl ?_
        refine tn_sub [2, 3, 1, 4, 0] rfl (l_X3_findLiving_39 (d) (T := T) (σ0 := σ) (a := a) (rx1 := rx1) (c3 := i3) h_a h_rx1 (by omega) hw (fun i24 i45 σ6 w9 F10 r11 r12 => ?_) _ (0) ((σ0.2.1 6 rx1) - 1) σ hw FrC.rfl (by omega) (by omega) rfl)
        show Tn _ _ 67 T σ6 [(0, .ref a), (1, .ref rx1), (2, .int (iI i24)), (3, .int (iI i3)), (4, .int (iI i45))] [] _
        refine tn_iinc (q0 := 3) (L' := [(3, .int (iI (i3 + 1))), (0, .ref a), (1, .ref rx1), (2, .int (iI i24)), (4, .int (iI i45))]) dX3_findLiving_67 rfl (by decide) rfl ?_
        refine tn_goto (tgt := 19) dX3_findLiving_70 (by decide) ?_
        exact tn_sub [1, 2, 3, 0] rfl (ih _ (by omega) (i24) (i3 + 1) σ6 w9 ((FrC.rfl.trans (FrC.sub hF (by decide))).trans (FrC.sub F10 (by decide))) (by omega) (by omega) rfl)
theorem dX3_findLiving_73 : decode cX3_findLiving 73 = .ok (.return_, 1) := by decide +kernel
set_option maxRecDepth 20000 in
theorem k_X3_findLiving (d : Nat) {T : CT} {σ : MS} {a : Nat} {p1 : Nat} (ha : OB T a 3) (h_p1 : OB T p1 1) (hw : WT T σ) : Tn (d + 4) m_X3_findLiving 0 T σ [(0, .ref a), (1, .ref p1)] [] (fun ro T2 σ2 => ro = none ∧ T = T2 ∧ WT T2 σ2 ∧ FrC T [] σ σ2) := by
  refine tn_aload_n dX3_findLiving_0 rfl 0 rfl ?_
  obtain ⟨x1, hx2, hk3, hl4⟩ : ∃ x : Nat, σ.2.1 18 a = (x : Int) ∧ AR T x 3 603 603 := wf_18 hw ha
  refine tn_getR (ci := 3) (i := 0) (n := 18) (x := x1) dX3_findLiving_1 rfl lay_3 (by decide) fl3_9 ha rfl rfl (hx2) ?_
  refine tn_aload_n dX3_findLiving_4 rfl 1 rfl ?_
  refine tn_getI (ci := 1) (i := 1) (n := 6) (t := σ.2.1 6 p1) dX3_findLiving_5 rfl lay_1 (by decide) fl3_29 h_p1 rfl rfl (rfl) ?_
  have g5 : ((0 : Int) ≤ σ.2.1 6 p1 ∧ σ.2.1 6 p1 ≤ 5000) ∧ ((T p1).1 = 50 → σ.2.1 6 p1 ≤ 200) := wf_6 hw h_p1
  have g5x := g5.2
  replace g5 := g5.1
  clear g5x
  refine tn_iconst dX3_findLiving_8 ?_
  refine tn_iadd dX3_findLiving_9 ?_
  refine tn_iconst dX3_findLiving_10 ?_
  refine tn_imul dX3_findLiving_11 ?_
  refine tn_callSN (M := m_X3_findLiving) (pc := 12) (ix := 35) (M' := m_X11_clear) (As := [.ref x1, .int (iI (((σ.2.1 6 p1) + 1) * 3))]) (rest := []) dX3_findLiving_12 ok_X11_clear stt_X11_clear nl3_35 np_X11_clear rfl (Nat.le_of_ble_eq_true rfl) (Nat.le_of_ble_eq_true rfl) rfl (k_X11_clear (d) (T := T) (σ := σ) (x := x1) (n := ((σ.2.1 6 p1) + 1) * 3) hk3 (by omega) (by omega) hw ) (fun r6 T8 σ7 gt9 hp => ?_)
  obtain ⟨rfl, rfl, w11, F12⟩ := hp
  clear gt9
  show Tn _ _ 15 T σ7 [(0, .ref a), (1, .ref p1)] [] _
  refine tn_iconst dX3_findLiving_15 ?_
  refine tn_istore_n (L' := [(2, .int (iI 1)), (0, .ref a), (1, .ref p1)]) dX3_findLiving_16 rfl (by decide) rfl ?_
  refine tn_iconst dX3_findLiving_17 ?_
  refine tn_istore_n (L' := [(3, .int (iI 0)), (2, .int (iI 1)), (0, .ref a), (1, .ref p1)]) dX3_findLiving_18 rfl (by decide) rfl ?_
  refine tn_sub [2, 3, 1, 0] rfl (l_X3_findLiving_19 (d) (T := T) (σ0 := σ7) (a := a) (rx1 := p1) ha h_p1 w11 (fun i213 i314 σ15 w18 F19 r20 r21 => ?_) _ (1) (0) σ7 w11 FrC.rfl (by omega) (by omega) rfl)
  show Tn _ _ 73 T σ15 [(0, .ref a), (1, .ref p1), (2, .int (iI i213)), (3, .int (iI i314))] [] _
  exact tn_vret rfl dX3_findLiving_73 ⟨rfl, rfl, w18, ((FrC.rfl.trans (FrC.sub F12 (by decide))).trans (FrC.sub F19 (by decide)))⟩
