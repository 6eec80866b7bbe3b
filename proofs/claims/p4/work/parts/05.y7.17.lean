theorem cd_X6_learn : Cond.code yX6_learn cX6_learn 6 none ∈ pWW := pw4 (List.mem_of_getElem? (i := 219) rfl) rfl
abbrev m_X6_learn : MT := (yX6_learn, cX6_learn, 6, none)
theorem ok_X6_learn : pOk m_X6_learn := ⟨⟨cd_X6_learn, ini_6⟩, by decide +kernel, ⟨by decide +kernel, by decide +kernel⟩, Nat.le_of_ble_eq_true rfl⟩
theorem np_X6_learn : (parseMethodDescriptor yX6_learn.desc).map (fun d => d.parameters.length) = some 2 := by decide +kernel
theorem im_X6_learn : Cond.instanceMethod yX6_learn ∈ pWW := pw4 (List.mem_of_getElem? (i := 218) rfl) rfl
theorem se_X6_learn : Cond.selects RX6 yX6_learn yX6_learn ∈ pWW := pws (List.mem_map.mpr ⟨_, lw_pin 48 rfl, rfl⟩) rfl
theorem ml6_84 : Cond.methodLink RX6 84 yX1_writtenBy ∈ pWW := pw4 (List.mem_of_getElem? (i := 220) rfl) rfl
theorem nl6_88 : (RX6, 88, yX11_put, "LineKeeper") ∈ nst_M := List.mem_of_getElem? (i := 20) rfl
theorem dX6_learn_0 : decode cX6_learn 0 = .ok (.aload_n 1, 1) := by decide +kernel
theorem dX6_learn_1 : decode cX6_learn 1 = .ok (.iload_n 2, 1) := by decide +kernel
theorem dX6_learn_2 : decode cX6_learn 2 = .ok (.invokevirtual 84, 3) := by decide +kernel
theorem dX6_learn_5 : decode cX6_learn 5 = .ok (.istore_n 3, 1) := by decide +kernel
theorem dX6_learn_6 : decode cX6_learn 6 = .ok (.iload_n 3, 1) := by decide +kernel
theorem dX6_learn_7 : decode cX6_learn 7 = .ok (.iconst (-1), 1) := by decide +kernel
theorem dX6_learn_8 : decode cX6_learn 8 = .ok (.if_icmp .ne 4, 3) := by decide +kernel
theorem dX6_learn_12 : decode cX6_learn 12 = .ok (.aload_n 0, 1) := by decide +kernel
theorem dX6_learn_13 : decode cX6_learn 13 = .ok (.getfield 9, 3) := by decide +kernel
theorem dX6_learn_16 : decode cX6_learn 16 = .ok (.iload_n 3, 1) := by decide +kernel
theorem dX6_learn_17 : decode cX6_learn 17 = .ok (.iconst 0, 1) := by decide +kernel
theorem dX6_learn_18 : decode cX6_learn 18 = .ok (.invokestatic 88, 3) := by decide +kernel
theorem dX6_learn_21 : decode cX6_learn 21 = .ok (.iconst 0, 1) := by decide +kernel
theorem dX6_learn_22 : decode cX6_learn 22 = .ok (.istore 4, 2) := by decide +kernel
theorem dX6_learn_24 : decode cX6_learn 24 = .ok (.iload 4, 2) := by decide +kernel
theorem dX6_learn_26 : decode cX6_learn 26 = .ok (.aload_n 0, 1) := by decide +kernel
theorem dX6_learn_27 : decode cX6_learn 27 = .ok (.getfield 9, 3) := by decide +kernel
theorem dX6_learn_30 : decode cX6_learn 30 = .ok (.arraylength, 1) := by decide +kernel
theorem dX6_learn_31 : decode cX6_learn 31 = .ok (.if_icmp .ge 41, 3) := by decide +kernel
theorem dX6_learn_34 : decode cX6_learn 34 = .ok (.aload_n 0, 1) := by decide +kernel
theorem dX6_learn_35 : decode cX6_learn 35 = .ok (.getfield 9, 3) := by decide +kernel
theorem dX6_learn_38 : decode cX6_learn 38 = .ok (.iload 4, 2) := by decide +kernel
theorem dX6_learn_40 : decode cX6_learn 40 = .ok (.iaload, 1) := by decide +kernel
theorem dX6_learn_41 : decode cX6_learn 41 = .ok (.iconst 2, 1) := by decide +kernel
theorem dX6_learn_42 : decode cX6_learn 42 = .ok (.if_icmp .ne 24, 3) := by decide +kernel
theorem dX6_learn_66 : decode cX6_learn 66 = .ok (.iinc 4 1, 3) := by decide +kernel
theorem dX6_learn_69 : decode cX6_learn 69 = .ok (.goto (-45), 3) := by decide +kernel
theorem dX6_learn_45 : decode cX6_learn 45 = .ok (.aload_n 0, 1) := by decide +kernel
theorem dX6_learn_46 : decode cX6_learn 46 = .ok (.getfield 15, 3) := by decide +kernel
theorem dX6_learn_49 : decode cX6_learn 49 = .ok (.iload 4, 2) := by decide +kernel
theorem dX6_learn_51 : decode cX6_learn 51 = .ok (.invokestatic 63, 3) := by decide +kernel
theorem dX6_learn_54 : decode cX6_learn 54 = .ok (.iload_n 3, 1) := by decide +kernel
theorem dX6_learn_55 : decode cX6_learn 55 = .ok (.if_icmp .ne 11, 3) := by decide +kernel
theorem dX6_learn_58 : decode cX6_learn 58 = .ok (.aload_n 0, 1) := by decide +kernel
theorem dX6_learn_59 : decode cX6_learn 59 = .ok (.getfield 9, 3) := by decide +kernel
theorem dX6_learn_62 : decode cX6_learn 62 = .ok (.iload 4, 2) := by decide +kernel
theorem dX6_learn_64 : decode cX6_learn 64 = .ok (.iconst 0, 1) := by decide +kernel
theorem dX6_learn_65 : decode cX6_learn 65 = .ok (.iastore, 1) := by decide +kernel
set_option maxRecDepth 20000 in
theorem l_X6_learn_24 (d : Nat) {T : CT} {σ0 : MS} {a : Nat} {rx1 : Nat} {c2 : Int} {c3 : Int} {post : Option Value → CT → MS → Prop} (h_a : OB T a 6) (h_rx1 : OB T rx1 1) (t_rx1 : (T rx1).1 = 50) (r_c2 : -2147483648 ≤ c2 ∧ c2 ≤ 2147483647) (r_c3 : -2147483648 ≤ c3 ∧ c3 ≤ 2147483647) (hw0 : WT T σ0) (hx_72 : ∀ (i4 : Int) (σ : MS) , (WT T σ) → (FrC T [] σ0 σ) → (0 ≤ i4 ∧ i4 ≤ 2147483647) → Tn (d + 3) m_X6_learn 72 T σ [(0, .ref a), (1, .ref rx1), (2, .int (iI c2)), (3, .int (iI c3)), (4, .int (iI i4))] [] post) : ∀ (n : Nat) (i4 : Int) (σ : MS) , (WT T σ) → (FrC T [] σ0 σ) → (0 ≤ i4 ∧ i4 ≤ 2147483647) → (2147483700 - i4).toNat = n → Tn (d + 3) m_X6_learn 24 T σ [(0, .ref a), (1, .ref rx1), (2, .int (iI c2)), (3, .int (iI c3)), (4, .int (iI i4))] [] post := by
  intro n
  induction n using Nat.strongRecOn with
  | _ n ih =>
    intro i4 σ hw hF r_i4 hm
    refine tn_iload dX6_learn_24 4 rfl ?_
    refine tn_aload_n dX6_learn_26 rfl 0 rfl ?_
    obtain ⟨x1, hx2, hk3, hl4⟩ : ∃ x : Nat, σ0.2.1 52 a = (x : Int) ∧ AR T x 1 192 192 := wf_52 hw0 h_a
    have hk3i : IA T x1 := by unfold IA; omega
    refine tn_getR (ci := 6) (i := 0) (n := 52) (x := x1) dX6_learn_27 rfl lay_6 (by decide) fl6_9 h_a rfl rfl (rc_F hF (Or.inl (by decide)) (by decide) (hx2)) ?_
    refine tn_alenX dX6_learn_30 (Or.inl hk3i) ?_
    refine tn_icmp_ge (tgt := 72) dX6_learn_31 (by decide) ⟨by omega, by omega⟩ ⟨by omega, by omega⟩ (fun h5 => ?_) (fun h5 => ?_)
    · exact tn_sub [0, 1, 2, 3, 4] rfl (hx_72 (i4) σ hw (FrC.rfl.trans (FrC.sub hF (by decide))) (by omega))
    · refine tn_aload_n dX6_learn_34 rfl 0 rfl ?_
      refine tn_getR (ci := 6) (i := 0) (n := 52) (x := x1) dX6_learn_35 rfl lay_6 (by decide) fl6_9 h_a rfl rfl (rc_F hF (Or.inl (by decide)) (by decide) (hx2)) ?_
      refine tn_iload dX6_learn_38 4 rfl ?_
      refine tn_ialdX (z := i4) hw dX6_learn_40 hk3i (by omega) (by omega) (by omega) (fun v6 g7q g7 g7k => ?_)
      clear g7k g7q
      refine tn_iconst dX6_learn_41 ?_
      refine tn_icmp_ne (tgt := 66) dX6_learn_42 (by decide) ⟨by omega, by omega⟩ ⟨by decide, by decide⟩ (fun h8 => ?_) (fun h8 => ?_)
      · refine tn_iinc (q0 := 4) (L' := [(4, .int (iI (i4 + 1))), (0, .ref a), (1, .ref rx1), (2, .int (iI c2)), (3, .int (iI c3))]) dX6_learn_66 rfl (by decide) rfl ?_
        refine tn_goto (tgt := 24) dX6_learn_69 (by decide) ?_
        exact tn_sub [1, 2, 3, 4, 0] rfl (ih _ (by omega) (i4 + 1) σ hw (FrC.rfl.trans (FrC.sub hF (by decide))) (by omega) rfl)
      · refine tn_aload_n dX6_learn_45 rfl 0 rfl ?_
        obtain ⟨x9, hx10, hk11, hl12⟩ : ∃ x : Nat, σ0.2.1 53 a = (x : Int) ∧ AR T x 1 192 192 := wf_53 hw0 h_a
        have hk11i : IA T x9 := by unfold IA; omega
        refine tn_getR (ci := 6) (i := 1) (n := 53) (x := x9) dX6_learn_46 rfl lay_6 (by decide) fl6_15 h_a rfl rfl (rc_F hF (Or.inl (by decide)) (by decide) (hx10)) ?_
        refine tn_iload dX6_learn_49 4 rfl ?_
        refine tn_callSN (M := m_X6_learn) (pc := 51) (ix := 63) (M' := m_X11_at) (As := [.ref x9, .int (iI i4)]) (rest := []) dX6_learn_51 ok_X11_at stt_X11_at nl6_63 np_X11_at rfl (Nat.le_of_ble_eq_true rfl) (Nat.le_of_ble_eq_true rfl) rfl (k_X11_at (d + 1) (T := T) (σ := σ) (x := x9) (i := i4) hk11i (by omega) (by omega) hw ) (fun r13 T15 σ14 gt16 hp => ?_)
        obtain ⟨v20, rfl, rfl, rfl, f17, f18, f19⟩ := hp
        clear gt16
        clear f18 f19
        show Tn _ _ 54 T σ [(0, .ref a), (1, .ref rx1), (2, .int (iI c2)), (3, .int (iI c3)), (4, .int (iI i4))] [.int (iI v20)] _
        refine tn_iload_n dX6_learn_54 rfl 3 rfl ?_
        refine tn_icmp_ne (tgt := 66) dX6_learn_55 (by decide) ⟨by omega, by omega⟩ ⟨by omega, by omega⟩ (fun h21 => ?_) (fun h21 => ?_)
        · refine tn_iinc (q0 := 4) (L' := [(4, .int (iI (i4 + 1))), (0, .ref a), (1, .ref rx1), (2, .int (iI c2)), (3, .int (iI c3))]) dX6_learn_66 rfl (by decide) rfl ?_
          refine tn_goto (tgt := 24) dX6_learn_69 (by decide) ?_
          exact tn_sub [1, 2, 3, 4, 0] rfl (ih _ (by omega) (i4 + 1) σ hw (FrC.rfl.trans (FrC.sub hF (by decide))) (by omega) rfl)
        · refine tn_aload_n dX6_learn_58 rfl 0 rfl ?_
          refine tn_getR (ci := 6) (i := 0) (n := 52) (x := x1) dX6_learn_59 rfl lay_6 (by decide) fl6_9 h_a rfl rfl (rc_F hF (Or.inl (by decide)) (by decide) (hx2)) ?_
          refine tn_iload dX6_learn_62 4 rfl ?_
          refine tn_iconst dX6_learn_64 ?_
          refine tn_iast (z := i4) (v := 0) dX6_learn_65 hk3i (by omega) (by omega) (by omega) ?_
          refine tn_iinc (q0 := 4) (L' := [(4, .int (iI (i4 + 1))), (0, .ref a), (1, .ref rx1), (2, .int (iI c2)), (3, .int (iI c3))]) dX6_learn_66 rfl (by decide) rfl ?_
          refine tn_goto (tgt := 24) dX6_learn_69 (by decide) ?_
          exact tn_sub [1, 2, 3, 4, 0] rfl (ih _ (by omega) (i4 + 1) (sA (1000 + x1) (i4) (0) σ) (hw.arr (Or.inl hk3i) vok_0) ((FrC.rfl.trans (FrC.sub hF (by decide))).arr (hk_no (nh_k hk3 (by unfold HT; omega)))) (by omega) rfl)
theorem dX6_learn_72 : decode cX6_learn 72 = .ok (.aload_n 1, 1) := by decide +kernel
theorem dX6_learn_73 : decode cX6_learn 73 = .ok (.iload_n 2, 1) := by decide +kernel
theorem dX6_learn_74 : decode cX6_learn 74 = .ok (.iconst 3, 1) := by decide +kernel
theorem dX6_learn_75 : decode cX6_learn 75 = .ok (.invokevirtual 34, 3) := by decide +kernel
theorem dX6_learn_78 : decode cX6_learn 78 = .ok (.istore 4, 2) := by decide +kernel
theorem dX6_learn_80 : decode cX6_learn 80 = .ok (.aload_n 1, 1) := by decide +kernel
theorem dX6_learn_81 : decode cX6_learn 81 = .ok (.iload_n 2, 1) := by decide +kernel
theorem dX6_learn_82 : decode cX6_learn 82 = .ok (.iconst 4, 1) := by decide +kernel
theorem dX6_learn_83 : decode cX6_learn 83 = .ok (.invokevirtual 34, 3) := by decide +kernel
theorem dX6_learn_86 : decode cX6_learn 86 = .ok (.istore 5, 2) := by decide +kernel
theorem dX6_learn_88 : decode cX6_learn 88 = .ok (.aload_n 1, 1) := by decide +kernel
theorem dX6_learn_89 : decode cX6_learn 89 = .ok (.iload_n 2, 1) := by decide +kernel
theorem dX6_learn_90 : decode cX6_learn 90 = .ok (.iconst 0, 1) := by decide +kernel
theorem dX6_learn_91 : decode cX6_learn 91 = .ok (.invokevirtual 34, 3) := by decide +kernel
theorem dX6_learn_94 : decode cX6_learn 94 = .ok (.ifCond .ne 35, 3) := by decide +kernel
theorem dX6_learn_129 : decode cX6_learn 129 = .ok (.return_, 1) := by decide +kernel
theorem dX6_learn_97 : decode cX6_learn 97 = .ok (.iload 4, 2) := by decide +kernel
theorem dX6_learn_99 : decode cX6_learn 99 = .ok (.iconst 2, 1) := by decide +kernel
theorem dX6_learn_100 : decode cX6_learn 100 = .ok (.if_icmp .ne 9, 3) := by decide +kernel
theorem dX6_learn_109 : decode cX6_learn 109 = .ok (.aload_n 0, 1) := by decide +kernel
theorem dX6_learn_110 : decode cX6_learn 110 = .ok (.getfield 9, 3) := by decide +kernel
theorem dX6_learn_113 : decode cX6_learn 113 = .ok (.iload_n 3, 1) := by decide +kernel
theorem dX6_learn_114 : decode cX6_learn 114 = .ok (.iload 4, 2) := by decide +kernel
theorem dX6_learn_116 : decode cX6_learn 116 = .ok (.invokestatic 88, 3) := by decide +kernel
theorem dX6_learn_119 : decode cX6_learn 119 = .ok (.aload_n 0, 1) := by decide +kernel
theorem dX6_learn_120 : decode cX6_learn 120 = .ok (.getfield 15, 3) := by decide +kernel
theorem dX6_learn_123 : decode cX6_learn 123 = .ok (.iload_n 3, 1) := by decide +kernel
theorem dX6_learn_124 : decode cX6_learn 124 = .ok (.iload 5, 2) := by decide +kernel
theorem dX6_learn_126 : decode cX6_learn 126 = .ok (.invokestatic 88, 3) := by decide +kernel
theorem dX6_learn_103 : decode cX6_learn 103 = .ok (.iload 5, 2) := by decide +kernel
theorem dX6_learn_105 : decode cX6_learn 105 = .ok (.iload_n 3, 1) := by decide +kernel
theorem dX6_learn_106 : decode cX6_learn 106 = .ok (.if_icmp .eq 23, 3) := by decide +kernel
theorem dX6_learn_11 : decode cX6_learn 11 = .ok (.return_, 1) := by decide +kernel
set_option maxRecDepth 20000 in
theorem k_X6_learn (d : Nat) {T : CT} {σ : MS} {a : Nat} {p1 : Nat} {p2 : Int} (ha : OB T a 6) (h_p1 : OB T p1 1) (t_p1 : (T p1).1 = 50) (h_p2 : -2147483648 ≤ p2 ∧ p2 ≤ 2147483647) (hw : WT T σ) : Tn (d + 3) m_X6_learn 0 T σ [(0, .ref a), (1, .ref p1), (2, .int (iI p2))] [] (fun ro T2 σ2 => ro = none ∧ T = T2 ∧ WT T2 σ2 ∧ FrC T [] σ σ2) := by
  refine tn_aload_n dX6_learn_0 rfl 1 rfl ?_
  refine tn_iload_n dX6_learn_1 rfl 2 rfl ?_
  refine tn_callV (M := m_X6_learn) (pc := 2) (ix := 84) (ci := 1) (M' := m_X1_writtenBy) (As := [.int (iI p2)]) (rest := []) dX6_learn_2 ok_X1_writtenBy im_X1_writtenBy se_X1_writtenBy ml6_84 np_X1_writtenBy rfl rfl h_p1 rfl (Nat.le_of_ble_eq_true rfl) (Nat.le_of_ble_eq_true rfl) rfl (k_X1_writtenBy (d) (T := T) (σ := σ) (a := p1) (k := p2) h_p1 (by omega) hw ) (fun r1 T3 σ2 gt4 hp => ?_)
  obtain ⟨v6, rfl, rfl, rfl, f5⟩ := hp
  clear gt4
  show Tn _ _ 5 T σ [(0, .ref a), (1, .ref p1), (2, .int (iI p2))] [.int (iI v6)] _
  refine tn_istore_n (L' := [(3, .int (iI v6)), (0, .ref a), (1, .ref p1), (2, .int (iI p2))]) dX6_learn_5 rfl (by decide) rfl ?_
  refine tn_iload_n dX6_learn_6 rfl 0 rfl ?_
  refine tn_iconst dX6_learn_7 ?_
  refine tn_icmp_ne (tgt := 12) dX6_learn_8 (by decide) ⟨by omega, by omega⟩ ⟨by decide, by decide⟩ (fun h7 => ?_) (fun h7 => ?_)
  · refine tn_aload_n dX6_learn_12 rfl 1 rfl ?_
    obtain ⟨x8, hx9, hk10, hl11⟩ : ∃ x : Nat, σ.2.1 52 a = (x : Int) ∧ AR T x 1 192 192 := wf_52 hw ha
    have hk10i : IA T x8 := by unfold IA; omega
    refine tn_getR (ci := 6) (i := 0) (n := 52) (x := x8) dX6_learn_13 rfl lay_6 (by decide) fl6_9 ha rfl rfl (hx9) ?_
    refine tn_iload_n dX6_learn_16 rfl 0 rfl ?_
    refine tn_iconst dX6_learn_17 ?_
    refine tn_callSN (M := m_X6_learn) (pc := 18) (ix := 88) (M' := m_X11_put) (As := [.ref x8, .int (iI v6), .int (iI 0)]) (rest := []) dX6_learn_18 ok_X11_put stt_X11_put nl6_88 np_X11_put rfl (Nat.le_of_ble_eq_true rfl) (Nat.le_of_ble_eq_true rfl) rfl (k_X11_put (d + 1) (T := T) (σ := σ) (x := x8) (i := v6) (y := 0) hk10i (by omega) (by omega) (by decide) hw (nh_k hk10 (by unfold HT; omega)) vok_0) (fun r12 T14 σ13 gt15 hp => ?_)
    obtain ⟨rfl, rfl, w17, F18⟩ := hp
    clear gt15
    show Tn _ _ 21 T σ13 [(3, .int (iI v6)), (0, .ref a), (1, .ref p1), (2, .int (iI p2))] [] _
    refine tn_iconst dX6_learn_21 ?_
    refine tn_istore (L' := [(4, .int (iI 0)), (3, .int (iI v6)), (0, .ref a), (1, .ref p1), (2, .int (iI p2))]) dX6_learn_22 (by decide) rfl ?_
    refine tn_sub [2, 3, 4, 1, 0] rfl (l_X6_learn_24 (d) (T := T) (σ0 := σ13) (a := a) (rx1 := p1) (c2 := p2) (c3 := v6) ha h_p1 t_p1 (by omega) (by omega) w17 (fun i419 σ20 w23 F24 r25 => ?_) _ (0) σ13 w17 FrC.rfl (by omega) rfl)
    show Tn _ _ 72 T σ20 [(0, .ref a), (1, .ref p1), (2, .int (iI p2)), (3, .int (iI v6)), (4, .int (iI i419))] [] _
    refine tn_aload_n dX6_learn_72 rfl 1 rfl ?_
    refine tn_iload_n dX6_learn_73 rfl 2 rfl ?_
    refine tn_iconst dX6_learn_74 ?_
    refine tn_callV (M := m_X6_learn) (pc := 75) (ix := 34) (ci := 1) (M' := m_X1_get) (As := [.int (iI p2), .int (iI 3)]) (rest := []) dX6_learn_75 ok_X1_get im_X1_get se_X1_get ml6_34 np_X1_get rfl rfl h_p1 rfl (Nat.le_of_ble_eq_true rfl) (Nat.le_of_ble_eq_true rfl) rfl (k_X1_get (d + 1) (T := T) (σ := σ20) (a := p1) (k := p2) (c := 3) h_p1 (by omega) (by decide) w23 (by omega)) (fun r26 T28 σ27 gt29 hp => ?_)
    obtain ⟨v31, rfl, rfl, rfl, f30⟩ := hp
    clear gt29
    show Tn _ _ 78 T σ20 [(0, .ref a), (1, .ref p1), (2, .int (iI p2)), (3, .int (iI v6)), (4, .int (iI i419))] [.int (iI v31)] _
    refine tn_istore (L' := [(4, .int (iI v31)), (0, .ref a), (1, .ref p1), (2, .int (iI p2)), (3, .int (iI v6))]) dX6_learn_78 (by decide) rfl ?_
    refine tn_aload_n dX6_learn_80 rfl 2 rfl ?_
    refine tn_iload_n dX6_learn_81 rfl 3 rfl ?_
    refine tn_iconst dX6_learn_82 ?_
    refine tn_callV (M := m_X6_learn) (pc := 83) (ix := 34) (ci := 1) (M' := m_X1_get) (As := [.int (iI p2), .int (iI 4)]) (rest := []) dX6_learn_83 ok_X1_get im_X1_get se_X1_get ml6_34 np_X1_get rfl rfl h_p1 rfl (Nat.le_of_ble_eq_true rfl) (Nat.le_of_ble_eq_true rfl) rfl (k_X1_get (d + 1) (T := T) (σ := σ20) (a := p1) (k := p2) (c := 4) h_p1 (by omega) (by decide) w23 (by omega)) (fun r32 T34 σ33 gt35 hp => ?_)
    obtain ⟨v37, rfl, rfl, rfl, f36⟩ := hp
    clear gt35
    show Tn _ _ 86 T σ20 [(4, .int (iI v31)), (0, .ref a), (1, .ref p1), (2, .int (iI p2)), (3, .int (iI v6))] [.int (iI v37)] _
    refine tn_istore (L' := [(5, .int (iI v37)), (4, .int (iI v31)), (0, .ref a), (1, .ref p1), (2, .int (iI p2)), (3, .int (iI v6))]) dX6_learn_86 (by decide) rfl ?_
    refine tn_aload_n dX6_learn_88 rfl 3 rfl ?_
    refine tn_iload_n dX6_learn_89 rfl 4 rfl ?_
    refine tn_iconst dX6_learn_90 ?_
    refine tn_callV (M := m_X6_learn) (pc := 91) (ix := 34) (ci := 1) (M' := m_X1_get) (As := [.int (iI p2), .int (iI 0)]) (rest := []) dX6_learn_91 ok_X1_get im_X1_get se_X1_get ml6_34 np_X1_get rfl rfl h_p1 rfl (Nat.le_of_ble_eq_true rfl) (Nat.le_of_ble_eq_true rfl) rfl (k_X1_get (d + 1) (T := T) (σ := σ20) (a := p1) (k := p2) (c := 0) h_p1 (by omega) (by decide) w23 (by omega)) (fun r38 T40 σ39 gt41 hp => ?_)
    obtain ⟨v43, rfl, rfl, rfl, f42⟩ := hp
    clear gt41
    show Tn _ _ 94 T σ20 [(5, .int (iI v37)), (4, .int (iI v31)), (0, .ref a), (1, .ref p1), (2, .int (iI p2)), (3, .int (iI v6))] [.int (iI v43)] _
    refine tn_if_ne (tgt := 129) dX6_learn_94 (by decide) ⟨by omega, by omega⟩ (fun h44 => ?_) (fun h44 => ?_)
    · exact tn_vret rfl dX6_learn_129 ⟨rfl, rfl, w23, ((FrC.rfl.trans (FrC.sub F18 (by decide))).trans (FrC.sub F24 (by decide)))⟩
    · refine tn_iload dX6_learn_97 1 rfl ?_
      refine tn_iconst dX6_learn_99 ?_
      refine tn_icmp_ne (tgt := 109) dX6_learn_100 (by decide) ⟨by omega, by omega⟩ ⟨by decide, by decide⟩ (fun h45 => ?_) (fun h45 => ?_)
      · refine tn_aload_n dX6_learn_109 rfl 2 rfl ?_
        refine tn_getR (ci := 6) (i := 0) (n := 52) (x := x8) dX6_learn_110 rfl lay_6 (by decide) fl6_9 ha rfl rfl (rc_F F24 (Or.inl (by decide)) (by decide) (rc_F F18 (Or.inl (by decide)) (by decide) (hx9))) ?_
        refine tn_iload_n dX6_learn_113 rfl 5 rfl ?_
        refine tn_iload dX6_learn_114 1 rfl ?_
        refine tn_callSN (M := m_X6_learn) (pc := 116) (ix := 88) (M' := m_X11_put) (As := [.ref x8, .int (iI v6), .int (iI v31)]) (rest := []) dX6_learn_116 ok_X11_put stt_X11_put nl6_88 np_X11_put rfl (Nat.le_of_ble_eq_true rfl) (Nat.le_of_ble_eq_true rfl) rfl (k_X11_put (d + 1) (T := T) (σ := σ20) (x := x8) (i := v6) (y := v31) hk10i (by omega) (by omega) (by omega) w23 (nh_k hk10 (by unfold HT; omega)) (vok_1 (by have q9 := hk10; omega) (by omega))) (fun r46 T48 σ47 gt49 hp => ?_)
        obtain ⟨rfl, rfl, w51, F52⟩ := hp
        clear gt49
        show Tn _ _ 119 T σ47 [(5, .int (iI v37)), (4, .int (iI v31)), (0, .ref a), (1, .ref p1), (2, .int (iI p2)), (3, .int (iI v6))] [] _
        refine tn_aload_n dX6_learn_119 rfl 2 rfl ?_
        obtain ⟨x53, hx54, hk55, hl56⟩ : ∃ x : Nat, σ.2.1 53 a = (x : Int) ∧ AR T x 1 192 192 := wf_53 hw ha
        have hk55i : IA T x53 := by unfold IA; omega
        refine tn_getR (ci := 6) (i := 1) (n := 53) (x := x53) dX6_learn_120 rfl lay_6 (by decide) fl6_15 ha rfl rfl (rc_F F52 (Or.inl (by decide)) (by decide) (rc_F F24 (Or.inl (by decide)) (by decide) (rc_F F18 (Or.inl (by decide)) (by decide) (hx54)))) ?_
        refine tn_iload_n dX6_learn_123 rfl 5 rfl ?_
        refine tn_iload dX6_learn_124 0 rfl ?_
        refine tn_callSN (M := m_X6_learn) (pc := 126) (ix := 88) (M' := m_X11_put) (As := [.ref x53, .int (iI v6), .int (iI v37)]) (rest := []) dX6_learn_126 ok_X11_put stt_X11_put nl6_88 np_X11_put rfl (Nat.le_of_ble_eq_true rfl) (Nat.le_of_ble_eq_true rfl) rfl (k_X11_put (d + 1) (T := T) (σ := σ47) (x := x53) (i := v6) (y := v37) hk55i (by omega) (by omega) (by omega) w51 (nh_k hk55 (by unfold HT; omega)) (vok_1 (by have q9 := hk55; omega) (by omega))) (fun r57 T59 σ58 gt60 hp => ?_)
        obtain ⟨rfl, rfl, w62, F63⟩ := hp
        clear gt60
        show Tn _ _ 129 T σ58 [(5, .int (iI v37)), (4, .int (iI v31)), (0, .ref a), (1, .ref p1), (2, .int (iI p2)), (3, .int (iI v6))] [] _
        exact tn_vret rfl dX6_learn_129 ⟨rfl, rfl, w62, ((((FrC.rfl.trans (FrC.sub F18 (by decide))).trans (FrC.sub F24 (by decide))).trans (FrC.sub F52 (by decide))).trans (FrC.sub F63 (by decide)))⟩
      · refine tn_iload dX6_learn_103 0 rfl ?_
        refine tn_iload_n dX6_learn_105 rfl 5 rfl ?_
        refine tn_icmp_eq (tgt := 129) dX6_learn_106 (by decide) ⟨by omega, by omega⟩ ⟨by omega, by omega⟩ (fun h64 => ?_) (fun h64 => ?_)
        · exact tn_vret rfl dX6_learn_129 ⟨rfl, rfl, w23, ((FrC.rfl.trans (FrC.sub F18 (by decide))).trans (FrC.sub F24 (by decide)))⟩
        · refine tn_aload_n dX6_learn_109 rfl 2 rfl ?_
          refine tn_getR (ci := 6) (i := 0) (n := 52) (x := x8) dX6_learn_110 rfl lay_6 (by decide) fl6_9 ha rfl rfl (rc_F F24 (Or.inl (by decide)) (by decide) (rc_F F18 (Or.inl (by decide)) (by decide) (hx9))) ?_
          refine tn_iload_n dX6_learn_113 rfl 5 rfl ?_
          refine tn_iload dX6_learn_114 1 rfl ?_
          refine tn_callSN (M := m_X6_learn) (pc := 116) (ix := 88) (M' := m_X11_put) (As := [.ref x8, .int (iI v6), .int (iI v31)]) (rest := []) dX6_learn_116 ok_X11_put stt_X11_put nl6_88 np_X11_put rfl (Nat.le_of_ble_eq_true rfl) (Nat.le_of_ble_eq_true rfl) rfl (k_X11_put (d + 1) (T := T) (σ := σ20) (x := x8) (i := v6) (y := v31) hk10i (by omega) (by omega) (by omega) w23 (nh_k hk10 (by unfold HT; omega)) (vok_1 (by have q9 := hk10; omega) (by omega))) (fun r65 T67 σ66 gt68 hp => ?_)
          obtain ⟨rfl, rfl, w70, F71⟩ := hp
          clear gt68
          show Tn _ _ 119 T σ66 [(5, .int (iI v37)), (4, .int (iI v31)), (0, .ref a), (1, .ref p1), (2, .int (iI p2)), (3, .int (iI v6))] [] _
          refine tn_aload_n dX6_learn_119 rfl 2 rfl ?_
          obtain ⟨x72, hx73, hk74, hl75⟩ : ∃ x : Nat, σ.2.1 53 a = (x : Int) ∧ AR T x 1 192 192 := wf_53 hw ha
          have hk74i : IA T x72 := by unfold IA; omega
          refine tn_getR (ci := 6) (i := 1) (n := 53) (x := x72) dX6_learn_120 rfl lay_6 (by decide) fl6_15 ha rfl rfl (rc_F F71 (Or.inl (by decide)) (by decide) (rc_F F24 (Or.inl (by decide)) (by decide) (rc_F F18 (Or.inl (by decide)) (by decide) (hx73)))) ?_
          refine tn_iload_n dX6_learn_123 rfl 5 rfl ?_
          refine tn_iload dX6_learn_124 0 rfl ?_
          refine tn_callSN (M := m_X6_learn) (pc := 126) (ix := 88) (M' := m_X11_put) (As := [.ref x72, .int (iI v6), .int (iI v37)]) (rest := []) dX6_learn_126 ok_X11_put stt_X11_put nl6_88 np_X11_put rfl (Nat.le_of_ble_eq_true rfl) (Nat.le_of_ble_eq_true rfl) rfl (k_X11_put (d + 1) (T := T) (σ := σ66) (x := x72) (i := v6) (y := v37) hk74i (by omega) (by omega) (by omega) w70 (nh_k hk74 (by unfold HT; omega)) (vok_1 (by have q9 := hk74; omega) (by omega))) (fun r76 T78 σ77 gt79 hp => ?_)
          obtain ⟨rfl, rfl, w81, F82⟩ := hp
          clear gt79
          show Tn _ _ 129 T σ77 [(5, .int (iI v37)), (4, .int (iI v31)), (0, .ref a), (1, .ref p1), (2, .int (iI p2)), (3, .int (iI v6))] [] _
          exact tn_vret rfl dX6_learn_129 ⟨rfl, rfl, w81, ((((FrC.rfl.trans (FrC.sub F18 (by decide))).trans (FrC.sub F24 (by decide))).trans (FrC.sub F71 (by decide))).trans (FrC.sub F82 (by decide)))⟩
  · exact tn_vret rfl dX6_learn_11 ⟨rfl, rfl, hw, FrC.rfl⟩
