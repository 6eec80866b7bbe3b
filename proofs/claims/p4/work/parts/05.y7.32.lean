theorem cd_X8_numberAnew : Cond.code yX8_numberAnew cX8_numberAnew 4 none ∈ pWW := pw5 (List.mem_of_getElem? (i := 227) rfl) rfl
abbrev m_X8_numberAnew : MT := (yX8_numberAnew, cX8_numberAnew, 4, none)
theorem ok_X8_numberAnew : pOk m_X8_numberAnew := ⟨⟨cd_X8_numberAnew, ini_8⟩, by decide +kernel, ⟨by decide +kernel, by decide +kernel⟩, Nat.le_of_ble_eq_true rfl⟩
theorem np_X8_numberAnew : (parseMethodDescriptor yX8_numberAnew.desc).map (fun d => d.parameters.length) = some 1 := by decide +kernel
theorem im_X8_numberAnew : Cond.instanceMethod yX8_numberAnew ∈ pWW := pw5 (List.mem_of_getElem? (i := 226) rfl) rfl
theorem se_X8_numberAnew : Cond.selects RX8 yX8_numberAnew yX8_numberAnew ∈ pWW := pws (List.mem_map.mpr ⟨_, lw_pin 78 rfl, rfl⟩) rfl
theorem ml8_124 : Cond.methodLink RX8 124 yX8_meets ∈ pWW := pw5 (List.mem_of_getElem? (i := 228) rfl) rfl
theorem dX8_numberAnew_0 : decode cX8_numberAnew 0 = .ok (.aload_n 0, 1) := by decide +kernel
theorem dX8_numberAnew_1 : decode cX8_numberAnew 1 = .ok (.getfield 22, 3) := by decide +kernel
theorem dX8_numberAnew_4 : decode cX8_numberAnew 4 = .ok (.iload_n 1, 1) := by decide +kernel
theorem dX8_numberAnew_5 : decode cX8_numberAnew 5 = .ok (.iconst 3, 1) := by decide +kernel
theorem dX8_numberAnew_6 : decode cX8_numberAnew 6 = .ok (.imul, 1) := by decide +kernel
theorem dX8_numberAnew_7 : decode cX8_numberAnew 7 = .ok (.invokestatic 108, 3) := by decide +kernel
theorem dX8_numberAnew_10 : decode cX8_numberAnew 10 = .ok (.iconst 0, 1) := by decide +kernel
theorem dX8_numberAnew_11 : decode cX8_numberAnew 11 = .ok (.istore_n 2, 1) := by decide +kernel
theorem dX8_numberAnew_12 : decode cX8_numberAnew 12 = .ok (.iload_n 2, 1) := by decide +kernel
theorem dX8_numberAnew_13 : decode cX8_numberAnew 13 = .ok (.iload_n 1, 1) := by decide +kernel
theorem dX8_numberAnew_14 : decode cX8_numberAnew 14 = .ok (.if_icmp .ge 49, 3) := by decide +kernel
theorem dX8_numberAnew_17 : decode cX8_numberAnew 17 = .ok (.iconst 0, 1) := by decide +kernel
theorem dX8_numberAnew_18 : decode cX8_numberAnew 18 = .ok (.istore_n 3, 1) := by decide +kernel
theorem dX8_numberAnew_19 : decode cX8_numberAnew 19 = .ok (.iload_n 3, 1) := by decide +kernel
theorem dX8_numberAnew_20 : decode cX8_numberAnew 20 = .ok (.iload_n 2, 1) := by decide +kernel
theorem dX8_numberAnew_21 : decode cX8_numberAnew 21 = .ok (.if_icmp .ge 18, 3) := by decide +kernel
theorem dX8_numberAnew_24 : decode cX8_numberAnew 24 = .ok (.aload_n 0, 1) := by decide +kernel
theorem dX8_numberAnew_25 : decode cX8_numberAnew 25 = .ok (.iload_n 3, 1) := by decide +kernel
theorem dX8_numberAnew_26 : decode cX8_numberAnew 26 = .ok (.iload_n 2, 1) := by decide +kernel
theorem dX8_numberAnew_27 : decode cX8_numberAnew 27 = .ok (.invokevirtual 124, 3) := by decide +kernel
theorem dX8_numberAnew_30 : decode cX8_numberAnew 30 = .ok (.ifCond .eq 9, 3) := by decide +kernel
theorem dX8_numberAnew_33 : decode cX8_numberAnew 33 = .ok (.iinc 3 1, 3) := by decide +kernel
theorem dX8_numberAnew_36 : decode cX8_numberAnew 36 = .ok (.goto (-17), 3) := by decide +kernel
set_option maxRecDepth 20000 in
theorem l_X8_numberAnew_19 (d : Nat) {T : CT} {σ : MS} {a : Nat} {c1 : Int} {c2 : Int} {post : Option Value → CT → MS → Prop} (h_a : OB T a 8) (r_c1 : 1 ≤ c1 ∧ c1 ≤ 2147483647) (r_c2 : 0 ≤ c2 ∧ c2 ≤ 2147483646) (hw : WT T σ) (hx_39 : ∀ (i3 : Int) , (0 ≤ i3 ∧ i3 ≤ 2147483647) → Tn (d + 4) m_X8_numberAnew 39 T σ [(0, .ref a), (1, .int (iI c1)), (2, .int (iI c2)), (3, .int (iI i3))] [] post) : ∀ (n : Nat) (i3 : Int) , (0 ≤ i3 ∧ i3 ≤ 2147483647) → (2147483700 - i3).toNat = n → Tn (d + 4) m_X8_numberAnew 19 T σ [(0, .ref a), (1, .int (iI c1)), (2, .int (iI c2)), (3, .int (iI i3))] [] post := by
  intro n
  induction n using Nat.strongRecOn with
  | _ n ih =>
    intro i3 r_i3 hm
    refine tn_iload_n dX8_numberAnew_19 rfl 3 rfl ?_
    refine tn_iload_n dX8_numberAnew_20 rfl 2 rfl ?_
    refine tn_icmp_ge (tgt := 39) dX8_numberAnew_21 (by decide) ⟨by omega, by omega⟩ ⟨by omega, by omega⟩ (fun h1 => ?_) (fun h1 => ?_)
    · exact tn_sub [0, 1, 2, 3] rfl (hx_39 (i3) (by omega))
    · refine tn_aload_n dX8_numberAnew_24 rfl 0 rfl ?_
      refine tn_iload_n dX8_numberAnew_25 rfl 3 rfl ?_
      refine tn_iload_n dX8_numberAnew_26 rfl 2 rfl ?_
      refine tn_callV (M := m_X8_numberAnew) (pc := 27) (ix := 124) (ci := 8) (M' := m_X8_meets) (As := [.int (iI i3), .int (iI c2)]) (rest := []) dX8_numberAnew_27 ok_X8_meets im_X8_meets se_X8_meets ml8_124 np_X8_meets rfl rfl h_a rfl (Nat.le_of_ble_eq_true rfl) (Nat.le_of_ble_eq_true rfl) rfl (k_X8_meets (d + 1) (T := T) (σ := σ) (a := a) (p1 := i3) (p2 := c2) h_a (by omega) (by omega) hw ) (fun r2 T4 σ3 gt5 hp => ?_)
      obtain ⟨v7, rfl, rfl, rfl, f6⟩ := hp
      clear gt5
      show Tn _ _ 30 T σ [(0, .ref a), (1, .int (iI c1)), (2, .int (iI c2)), (3, .int (iI i3))] [.int (iI v7)] _
      refine tn_if_eq (tgt := 39) dX8_numberAnew_30 (by decide) ⟨by omega, by omega⟩ (fun h8 => ?_) (fun h8 => ?_)
      · exact tn_sub [0, 1, 2, 3] rfl (hx_39 (i3) (by omega))
      · refine tn_iinc (q0 := 3) (L' := [(3, .int (iI (i3 + 1))), (0, .ref a), (1, .int (iI c1)), (2, .int (iI c2))]) dX8_numberAnew_33 rfl (by decide) rfl ?_
        refine tn_goto (tgt := 19) dX8_numberAnew_36 (by decide) ?_
        exact tn_sub [1, 2, 3, 0] rfl (ih _ (by omega) (i3 + 1) (by omega) rfl)
theorem fl8_18 : Cond.fieldLink RX8 18 (TX8 3).1 (TX8 3).2.1 (TX8 3).2.2.1 ∈ pWW := pw2 (List.mem_of_getElem? (i := 101) rfl) rfl
theorem nl8_128 : (RX8, 128, yX11_put, "LineKeeper") ∈ nst_M := List.mem_of_getElem? (i := 44) rfl
theorem dX8_numberAnew_39 : decode cX8_numberAnew 39 = .ok (.aload_n 0, 1) := by decide +kernel
theorem dX8_numberAnew_40 : decode cX8_numberAnew 40 = .ok (.getfield 18, 3) := by decide +kernel
theorem dX8_numberAnew_43 : decode cX8_numberAnew 43 = .ok (.iload_n 2, 1) := by decide +kernel
theorem dX8_numberAnew_44 : decode cX8_numberAnew 44 = .ok (.iload_n 3, 1) := by decide +kernel
theorem dX8_numberAnew_45 : decode cX8_numberAnew 45 = .ok (.invokestatic 128, 3) := by decide +kernel
theorem dX8_numberAnew_48 : decode cX8_numberAnew 48 = .ok (.aload_n 0, 1) := by decide +kernel
theorem dX8_numberAnew_49 : decode cX8_numberAnew 49 = .ok (.getfield 22, 3) := by decide +kernel
theorem dX8_numberAnew_52 : decode cX8_numberAnew 52 = .ok (.iload_n 3, 1) := by decide +kernel
theorem dX8_numberAnew_53 : decode cX8_numberAnew 53 = .ok (.iload_n 2, 1) := by decide +kernel
theorem dX8_numberAnew_54 : decode cX8_numberAnew 54 = .ok (.invokestatic 104, 3) := by decide +kernel
theorem dX8_numberAnew_57 : decode cX8_numberAnew 57 = .ok (.iinc 2 1, 3) := by decide +kernel
theorem dX8_numberAnew_60 : decode cX8_numberAnew 60 = .ok (.goto (-48), 3) := by decide +kernel
set_option maxRecDepth 20000 in
theorem l_X8_numberAnew_12 (d : Nat) {T : CT} {σ0 : MS} {a : Nat} {c1 : Int} {post : Option Value → CT → MS → Prop} (h_a : OB T a 8) (r_c1 : -2147483648 ≤ c1 ∧ c1 ≤ 2147483647) (hw0 : WT T σ0) (hx_63 : ∀ (i2 : Int) (σ : MS) , (WT T σ) → (FrC T [] σ0 σ) → (0 ≤ i2 ∧ i2 ≤ 2147483647) → Tn (d + 4) m_X8_numberAnew 63 T σ [(0, .ref a), (1, .int (iI c1)), (2, .int (iI i2))] [] post) : ∀ (n : Nat) (i2 : Int) (σ : MS) , (WT T σ) → (FrC T [] σ0 σ) → (0 ≤ i2 ∧ i2 ≤ 2147483647) → (2147483700 - i2).toNat = n → Tn (d + 4) m_X8_numberAnew 12 T σ [(0, .ref a), (1, .int (iI c1)), (2, .int (iI i2))] [] post := by
  intro n
  induction n using Nat.strongRecOn with
  | _ n ih =>
    intro i2 σ hw hF r_i2 hm
    refine tn_iload_n dX8_numberAnew_12 rfl 2 rfl ?_
    refine tn_iload_n dX8_numberAnew_13 rfl 1 rfl ?_
    refine tn_icmp_ge (tgt := 63) dX8_numberAnew_14 (by decide) ⟨by omega, by omega⟩ ⟨by omega, by omega⟩ (fun h1 => ?_) (fun h1 => ?_)
    · exact tn_sub [0, 1, 2] rfl (hx_63 (i2) σ hw (FrC.rfl.trans (FrC.sub hF (by decide))) (by omega))
    · refine tn_iconst dX8_numberAnew_17 ?_
      refine tn_istore_n (L' := [(3, .int (iI 0)), (0, .ref a), (1, .int (iI c1)), (2, .int (iI i2))]) dX8_numberAnew_18 rfl (by decide) rfl ?_
      refine tn_sub [1, 2, 3, 0] rfl (l_X8_numberAnew_19 (d) (T := T) (σ := σ) (a := a) (c1 := c1) (c2 := i2) h_a (by omega) (by omega) hw (fun i32 r8 => ?_) _ (0) (by omega) rfl)
      show Tn _ _ 39 T σ [(0, .ref a), (1, .int (iI c1)), (2, .int (iI i2)), (3, .int (iI i32))] [] _
      refine tn_aload_n dX8_numberAnew_39 rfl 0 rfl ?_
      obtain ⟨x9, hx10, hk11, hl12⟩ : ∃ x : Nat, σ0.2.1 75 a = (x : Int) ∧ AR T x 1 192 192 := wf_75 hw0 h_a
      have hk11i : IA T x9 := by unfold IA; omega
      refine tn_getR (ci := 8) (i := 3) (n := 75) (x := x9) dX8_numberAnew_40 rfl lay_8 (by decide) fl8_18 h_a rfl rfl (rc_F hF (Or.inl (by decide)) (by decide) (hx10)) ?_
      refine tn_iload_n dX8_numberAnew_43 rfl 2 rfl ?_
      refine tn_iload_n dX8_numberAnew_44 rfl 3 rfl ?_
      refine tn_callSN (M := m_X8_numberAnew) (pc := 45) (ix := 128) (M' := m_X11_put) (As := [.ref x9, .int (iI i2), .int (iI i32)]) (rest := []) dX8_numberAnew_45 ok_X11_put stt_X11_put nl8_128 np_X11_put rfl (Nat.le_of_ble_eq_true rfl) (Nat.le_of_ble_eq_true rfl) rfl (k_X11_put (d + 2) (T := T) (σ := σ) (x := x9) (i := i2) (y := i32) hk11i (by omega) (by omega) (by omega) hw (nh_k hk11 (by unfold HT; omega)) (vok_1 (by have q9 := hk11; omega) (by omega))) (fun r13 T15 σ14 gt16 hp => ?_)
      obtain ⟨rfl, rfl, w18, F19⟩ := hp
      clear gt16
      show Tn _ _ 48 T σ14 [(0, .ref a), (1, .int (iI c1)), (2, .int (iI i2)), (3, .int (iI i32))] [] _
      refine tn_aload_n dX8_numberAnew_48 rfl 0 rfl ?_
      obtain ⟨x20, hx21, hk22, hl23⟩ : ∃ x : Nat, σ0.2.1 76 a = (x : Int) ∧ AR T x 3 576 576 := wf_76 hw0 h_a
      refine tn_getR (ci := 8) (i := 4) (n := 76) (x := x20) dX8_numberAnew_49 rfl lay_8 (by decide) fl8_22 h_a rfl rfl (rc_F F19 (Or.inl (by decide)) (by decide) (rc_F hF (Or.inl (by decide)) (by decide) (hx21))) ?_
      refine tn_iload_n dX8_numberAnew_52 rfl 3 rfl ?_
      refine tn_iload_n dX8_numberAnew_53 rfl 2 rfl ?_
      refine tn_callSN (M := m_X8_numberAnew) (pc := 54) (ix := 104) (M' := m_X11_include) (As := [.ref x20, .int (iI i32), .int (iI i2)]) (rest := []) dX8_numberAnew_54 ok_X11_include stt_X11_include nl8_104 np_X11_include rfl (Nat.le_of_ble_eq_true rfl) (Nat.le_of_ble_eq_true rfl) rfl (k_X11_include (d + 1) (T := T) (σ := σ14) (x := x20) (k := i32) (r := i2) hk22 (by omega) (by omega) (by omega) w18 ) (fun r24 T26 σ25 gt27 hp => ?_)
      obtain ⟨rfl, rfl, w29, F30⟩ := hp
      clear gt27
      show Tn _ _ 57 T σ25 [(0, .ref a), (1, .int (iI c1)), (2, .int (iI i2)), (3, .int (iI i32))] [] _
      refine tn_iinc (q0 := 2) (L' := [(2, .int (iI (i2 + 1))), (0, .ref a), (1, .int (iI c1)), (3, .int (iI i32))]) dX8_numberAnew_57 rfl (by decide) rfl ?_
      refine tn_goto (tgt := 12) dX8_numberAnew_60 (by decide) ?_
      exact tn_sub [1, 2, 0] rfl (ih _ (by omega) (i2 + 1) σ25 w29 (((FrC.rfl.trans (FrC.sub hF (by decide))).trans (FrC.sub F19 (by decide))).trans (FrC.sub F30 (by decide))) (by omega) rfl)
theorem dX8_numberAnew_63 : decode cX8_numberAnew 63 = .ok (.return_, 1) := by decide +kernel
set_option maxRecDepth 20000 in
theorem k_X8_numberAnew (d : Nat) {T : CT} {σ : MS} {a : Nat} {p1 : Int} (ha : OB T a 8) (h_p1 : -2147483648 ≤ p1 ∧ p1 ≤ 2147483647) (hw : WT T σ) : Tn (d + 4) m_X8_numberAnew 0 T σ [(0, .ref a), (1, .int (iI p1))] [] (fun ro T2 σ2 => ro = none ∧ T = T2 ∧ WT T2 σ2 ∧ FrC T [] σ σ2) := by
  refine tn_aload_n dX8_numberAnew_0 rfl 0 rfl ?_
  obtain ⟨x1, hx2, hk3, hl4⟩ : ∃ x : Nat, σ.2.1 76 a = (x : Int) ∧ AR T x 3 576 576 := wf_76 hw ha
  refine tn_getR (ci := 8) (i := 4) (n := 76) (x := x1) dX8_numberAnew_1 rfl lay_8 (by decide) fl8_22 ha rfl rfl (hx2) ?_
  refine tn_iload_n dX8_numberAnew_4 rfl 1 rfl ?_
  refine tn_iconst dX8_numberAnew_5 ?_
  refine tn_imul dX8_numberAnew_6 ?_
  refine tn_any (fun z5 g6 => ?_)
  have g6r : -2147483648 ≤ z5 ∧ z5 ≤ 2147483647 := g6
  refine tn_callSN (M := m_X8_numberAnew) (pc := 7) (ix := 108) (M' := m_X11_clear) (As := [.ref x1, .int (iI z5)]) (rest := []) dX8_numberAnew_7 ok_X11_clear stt_X11_clear nl8_108 np_X11_clear rfl (Nat.le_of_ble_eq_true rfl) (Nat.le_of_ble_eq_true rfl) rfl (k_X11_clear (d) (T := T) (σ := σ) (x := x1) (n := z5) hk3 (by omega) (by omega) hw ) (fun r7 T9 σ8 gt10 hp => ?_)
  obtain ⟨rfl, rfl, w12, F13⟩ := hp
  clear gt10
  show Tn _ _ 10 T σ8 [(0, .ref a), (1, .int (iI p1))] [] _
  refine tn_iconst dX8_numberAnew_10 ?_
  refine tn_istore_n (L' := [(2, .int (iI 0)), (0, .ref a), (1, .int (iI p1))]) dX8_numberAnew_11 rfl (by decide) rfl ?_
  refine tn_sub [1, 2, 0] rfl (l_X8_numberAnew_12 (d) (T := T) (σ0 := σ8) (a := a) (c1 := p1) ha (by omega) w12 (fun i214 σ15 w18 F19 r20 => ?_) _ (0) σ8 w12 FrC.rfl (by omega) rfl)
  show Tn _ _ 63 T σ15 [(0, .ref a), (1, .int (iI p1)), (2, .int (iI i214))] [] _
  exact tn_vret rfl dX8_numberAnew_63 ⟨rfl, rfl, w18, ((FrC.rfl.trans (FrC.sub F13 (by decide))).trans (FrC.sub F19 (by decide)))⟩
