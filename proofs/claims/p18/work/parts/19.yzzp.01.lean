section
set_option maxHeartbeats 1000000 in
set_option maxRecDepth 20000 in
theorem k_X9_keep_fw (d : Nat) {T : CT} {σ : MS} {a : Nat} {n : Int} (ha : OB T a 9) (h_n : -2147483648 ≤ n ∧ n ≤ 2147483647) (hw : WT T σ) (hk : n = 1200 → σ.2.1 85 a = 0 ∨ σ.2.1 85 a = 263 ∨ σ.2.1 85 a = 264) (hn : 0 ≤ n ∧ n ≤ 1200) : Tn (d + 2) m_X9_keep 0 T σ [(0, .ref a), (1, .int (iI n))] [] (fun ro T2 σ2 => ro = none ∧ T = T2 ∧ WT T2 σ2 ∧ FrC T [512, 522, 523] σ σ2 ∧ (KPQ σ σ2 a n (σ.2.1 85 a) (σ.2.1 86 a) (σ.2.1 87 a)) ∧ (TRT T σ σ2)) := by
  refine tn_aload_n dX9_keep_0 rfl 0 rfl ?_
  obtain ⟨xq1, hx2, hk3, hl4⟩ : ∃ x : Nat, σ.2.1 81 a = (x : Int) ∧ AR T x 12 1201 1201 := wf_81 hw ha
  have hk3i : IA T xq1 := by unfold IA; omega
  refine tn_getR (ci := 9) (i := 0) (n := 81) (x := xq1) dX9_keep_1 rfl lay_9 (by decide) fl9_9 ha rfl rfl (hx2) ?_
  refine tn_iload_n dX9_keep_4 rfl 1 rfl ?_
  refine tn_aload_n dX9_keep_5 rfl 0 rfl ?_
  refine tn_getI (ci := 9) (i := 4) (n := 85) (t := σ.2.1 85 a) dX9_keep_6 rfl lay_9 (by decide) fl9_30 ha rfl rfl (rfl) ?_
  have g5 : ((-2147483648 : Int) ≤ σ.2.1 85 a ∧ σ.2.1 85 a ≤ 2147483647) := wf_85 hw ha
  refine tn_callSN (M := m_X9_keep) (pc := 9) (ix := 51) (M' := m_X11_put) (As := [.ref xq1, .int (iI n), .int (iI (σ.2.1 85 a))]) (rest := []) dX9_keep_9 ok_X11_put stt_X11_put nl9_51 np_X11_put rfl (Nat.le_of_ble_eq_true rfl) (Nat.le_of_ble_eq_true rfl) rfl (k_X11_put_12 (d) (T := T) (σ := σ) (x := xq1) (i := n) (y := σ.2.1 85 a) hk3i (by omega) hk3 (by omega) (by omega) hw (by rw [hk3]; exact vok_12 (by omega) hk)) (fun r6 T8 σ7 gt9 hp => ?_)
  obtain ⟨rfl, rfl, w12, F13, f10⟩ := hp
  clear gt9
  show Tn _ _ 12 T σ7 [(0, .ref a), (1, .int (iI n))] [] _
  refine tn_aload_n dX9_keep_12 rfl 0 rfl ?_
  obtain ⟨xq14, hx15, hk16, hl17⟩ : ∃ x : Nat, σ.2.1 82 a = (x : Int) ∧ AR T x 22 1201 1201 := wf_82 hw ha
  have hk16i : IA T xq14 := by unfold IA; omega
  refine tn_getR (ci := 9) (i := 1) (n := 82) (x := xq14) dX9_keep_13 rfl lay_9 (by decide) fl9_15 ha rfl rfl (rc_F F13 (Or.inl (by decide)) (by decide) (hx15)) ?_
  refine tn_iload_n dX9_keep_16 rfl 1 rfl ?_
  refine tn_aload_n dX9_keep_17 rfl 0 rfl ?_
  refine tn_getI (ci := 9) (i := 5) (n := 86) (t := σ.2.1 86 a) dX9_keep_18 rfl lay_9 (by decide) fl9_55 ha rfl rfl (rc_F F13 (Or.inl (by decide)) (by decide) (rfl)) ?_
  have g18 : ((-2147483648 : Int) ≤ σ.2.1 86 a ∧ σ.2.1 86 a ≤ 2147483647) := wf_86 hw ha
  refine tn_callSN (M := m_X9_keep) (pc := 21) (ix := 51) (M' := m_X11_put) (As := [.ref xq14, .int (iI n), .int (iI (σ.2.1 86 a))]) (rest := []) dX9_keep_21 ok_X11_put stt_X11_put nl9_51 np_X11_put rfl (Nat.le_of_ble_eq_true rfl) (Nat.le_of_ble_eq_true rfl) rfl (k_X11_put_22 (d) (T := T) (σ := σ7) (x := xq14) (i := n) (y := σ.2.1 86 a) hk16i (by omega) hk16 (by omega) (by omega) w12 ) (fun r19 T21 σ20 gt22 hp => ?_)
  obtain ⟨rfl, rfl, w25, F26, f23⟩ := hp
  clear gt22
  show Tn _ _ 24 T σ20 [(0, .ref a), (1, .int (iI n))] [] _
  refine tn_aload_n dX9_keep_24 rfl 0 rfl ?_
  obtain ⟨xq27, hx28, hk29, hl30⟩ : ∃ x : Nat, σ.2.1 83 a = (x : Int) ∧ AR T x 23 1201 1201 := wf_83 hw ha
  have hk29i : IA T xq27 := by unfold IA; omega
  refine tn_getR (ci := 9) (i := 2) (n := 83) (x := xq27) dX9_keep_25 rfl lay_9 (by decide) fl9_18 ha rfl rfl (rc_F F26 (Or.inl (by decide)) (by decide) (rc_F F13 (Or.inl (by decide)) (by decide) (hx28))) ?_
  refine tn_iload_n dX9_keep_28 rfl 1 rfl ?_
  refine tn_aload_n dX9_keep_29 rfl 0 rfl ?_
  refine tn_getI (ci := 9) (i := 6) (n := 87) (t := σ.2.1 87 a) dX9_keep_30 rfl lay_9 (by decide) fl9_34 ha rfl rfl (rc_F F26 (Or.inl (by decide)) (by decide) (rc_F F13 (Or.inl (by decide)) (by decide) (rfl))) ?_
  have g31 : ((-2147483648 : Int) ≤ σ.2.1 87 a ∧ σ.2.1 87 a ≤ 2147483647) := wf_87 hw ha
  refine tn_callSN (M := m_X9_keep) (pc := 33) (ix := 51) (M' := m_X11_put) (As := [.ref xq27, .int (iI n), .int (iI (σ.2.1 87 a))]) (rest := []) dX9_keep_33 ok_X11_put stt_X11_put nl9_51 np_X11_put rfl (Nat.le_of_ble_eq_true rfl) (Nat.le_of_ble_eq_true rfl) rfl (k_X11_put_23 (d) (T := T) (σ := σ20) (x := xq27) (i := n) (y := σ.2.1 87 a) hk29i (by omega) hk29 (by omega) (by omega) w25 ) (fun r32 T34 σ33 gt35 hp => ?_)
  obtain ⟨rfl, rfl, w38, F39, f36⟩ := hp
  clear gt35
  show Tn _ _ 36 T σ33 [(0, .ref a), (1, .int (iI n))] [] _
  have w40n8182 : xq1 ≠ xq14 := fun e => by have q9 := hk3; rw [e] at q9; have w9 := hk16; omega
  have w40n8183 : xq1 ≠ xq27 := fun e => by have q9 := hk3; rw [e] at q9; have w9 := hk29; omega
  have w40n8283 : xq14 ≠ xq27 := fun e => by have q9 := hk16; rw [e] at q9; have w9 := hk29; omega
  have w4081 : ∀ k : Nat, σ.2.1 81 a = (k : Int) → ∀ i, σ33.2.1 (1000 + k) i = if i = n then σ.2.1 85 a else σ.2.1 (1000 + k) i := fun y hy i => by
      have e : y = xq1 := by omega
      rw [e, f36, if_pos ⟨by omega, by omega⟩, sA_k (by omega), f23, if_pos ⟨by omega, by omega⟩, sA_k (by omega), f10, if_pos ⟨by omega, by omega⟩, sA_at]
  have w4082 : ∀ k : Nat, σ.2.1 82 a = (k : Int) → ∀ i, σ33.2.1 (1000 + k) i = if i = n then σ.2.1 86 a else σ.2.1 (1000 + k) i := fun y hy i => by
      have e : y = xq14 := by omega
      rw [e, f36, if_pos ⟨by omega, by omega⟩, sA_k (by omega), f23, if_pos ⟨by omega, by omega⟩, sA_at, show σ7.2.1 (1000 + xq14) = σ.2.1 (1000 + xq14) by rw [f10, if_pos ⟨by omega, by omega⟩, sA_k (by omega)]]
  have w4083 : ∀ k : Nat, σ.2.1 83 a = (k : Int) → ∀ i, σ33.2.1 (1000 + k) i = if i = n then σ.2.1 87 a else σ.2.1 (1000 + k) i := fun y hy i => by
      have e : y = xq27 := by omega
      rw [e, f36, if_pos ⟨by omega, by omega⟩, sA_at, show σ20.2.1 (1000 + xq27) = σ.2.1 (1000 + xq27) by rw [f23, if_pos ⟨by omega, by omega⟩, sA_k (by omega), f10, if_pos ⟨by omega, by omega⟩, sA_k (by omega)]]
  exact tn_vret rfl dX9_keep_36 ⟨rfl, rfl, w38, (((FrC.rfl.trans (FrC.sub F13 (by decide))).trans (FrC.sub F26 (by decide))).trans (FrC.sub F39 (by decide))), ⟨w4081, w4082, w4083⟩, (TRT.pq (TRT.pq (TRT.pq TRT.rfl f10 hk3 (by decide)) f23 hk16 (by decide)) f36 hk29 (by decide))⟩
end
section
set_option maxHeartbeats 1000000 in
set_option maxRecDepth 20000 in
theorem l_X9_scanOne_fw_8 (d : Nat) {T : CT} {σ0 : MS} {a : Nat} {rx1 : Nat} {c2 : Int} {c3 : Int} {fT : Int → Int} {Sx : Int → Int} {post : Option Value → CT → MS → Prop} (h_a : OB T a 9) (h_rx1 : (T rx1).1 = 2) (l_rx1 : (T rx1).2 ≤ 1000000) (r_c2 : 0 ≤ c2 ∧ c2 ≤ 1200) (r_c3 : 0 ≤ c3 ∧ c3 ≤ 1200) (hw0 : WT T σ0) (ht : (T rx1).2 = 1200) (hB : BYT fT) (hSx : Sx = svC fT c2) (hx_56 : ∀ (i4 : Int) (σ : MS) , (WT T σ) → (FrC T [86] σ0 σ) → (0 ≤ i4 ∧ i4 ≤ 1200) → (c3 ≤ i4 ∧ i4 ≤ c2) → (LTN Sx c3 i4) → (NUM9 Sx c3 i4 (σ.2.1 86 a)) → (RWE σ rx1 fT c2) → (TRT T σ0 σ) → (¬ (97 ≤ Sx i4 ∧ Sx i4 ≤ 122)) → Tn (d + 2) m_X9_scanOne 56 T σ [(0, .ref a), (1, .ref rx1), (2, .int (iI c2)), (3, .int (iI c3)), (4, .int (iI i4))] [] post) : ∀ (n : Nat) (i4 : Int) (σ : MS) , (WT T σ) → (FrC T [86] σ0 σ) → (0 ≤ i4 ∧ i4 ≤ 1200) → (c3 ≤ i4 ∧ i4 ≤ c2) → (LTN Sx c3 i4) → (NUM9 Sx c3 i4 (σ.2.1 86 a)) → (RWE σ rx1 fT c2) → (TRT T σ0 σ) → (2147483700 - i4).toNat = n → Tn (d + 2) m_X9_scanOne 8 T σ [(0, .ref a), (1, .ref rx1), (2, .int (iI c2)), (3, .int (iI c3)), (4, .int (iI i4))] [] post := by
  intro n
  induction n using Nat.strongRecOn with
  | _ n ih =>
    intro i4 σ hw hF r_i4 h0 hlt hnu hrow htr hm
    refine tn_iload dX9_scanOne_8 4 rfl ?_
    refine tn_iload_n dX9_scanOne_10 rfl 2 rfl ?_
    refine tn_icmp_ge (tgt := 56) dX9_scanOne_11 (by decide) ⟨by omega, by omega⟩ ⟨by omega, by omega⟩ (fun h1 => ?_) (fun h1 => ?_)
    · exact tn_sub [0, 1, 2, 3, 4] rfl (hx_56 (i4) σ hw (FrC.rfl.trans (FrC.sub hF (by decide))) (by omega) (by omega) hlt hnu hrow htr (not_let hSx hB (by omega)))
    · refine tn_aload_n dX9_scanOne_14 rfl 1 rfl ?_
      refine tn_iload dX9_scanOne_15 4 rfl ?_
      have g2 := hB (i4)
      refine tn_bald (z := i4) (v := fT (i4)) dX9_scanOne_17 h_rx1 (by omega) (by omega) (by omega) (hrow (i4) (by omega) (by omega)) ?_
      refine tn_bipush dX9_scanOne_18 (by decide) ?_
      refine tn_icmp_lt (tgt := 56) dX9_scanOne_20 (by decide) ⟨by omega, by omega⟩ ⟨by decide, by decide⟩ (fun h3 => ?_) (fun h3 => ?_)
      · exact tn_sub [0, 1, 2, 3, 4] rfl (hx_56 (i4) σ hw (FrC.rfl.trans (FrC.sub hF (by decide))) (by omega) (by omega) hlt hnu hrow htr (not_let hSx hB (by omega)))
      · refine tn_aload_n dX9_scanOne_23 rfl 1 rfl ?_
        refine tn_iload dX9_scanOne_24 4 rfl ?_
        have g4 := hB (i4)
        refine tn_bald (z := i4) (v := fT (i4)) dX9_scanOne_26 h_rx1 (by omega) (by omega) (by omega) (hrow (i4) (by omega) (by omega)) ?_
        refine tn_bipush dX9_scanOne_27 (by decide) ?_
        refine tn_icmp_gt (tgt := 56) dX9_scanOne_29 (by decide) ⟨by omega, by omega⟩ ⟨by decide, by decide⟩ (fun h5 => ?_) (fun h5 => ?_)
        · exact tn_sub [0, 1, 2, 3, 4] rfl (hx_56 (i4) σ hw (FrC.rfl.trans (FrC.sub hF (by decide))) (by omega) (by omega) hlt hnu hrow htr (not_let hSx hB (by omega)))
        · refine tn_aload_n dX9_scanOne_32 rfl 0 rfl ?_
          refine tn_aload_n dX9_scanOne_33 rfl 0 rfl ?_
          refine tn_getI (ci := 9) (i := 5) (n := 86) (t := σ.2.1 86 a) dX9_scanOne_34 rfl lay_9 (by decide) fl9_55 h_a rfl rfl (rfl) ?_
          have g6 : ((-2147483648 : Int) ≤ σ.2.1 86 a ∧ σ.2.1 86 a ≤ 2147483647) := wf_86 hw h_a
          refine tn_iconst dX9_scanOne_37 ?_
          refine tn_ishl dX9_scanOne_38 ?_
          refine tn_aload_n dX9_scanOne_39 rfl 1 rfl ?_
          refine tn_iload dX9_scanOne_40 4 rfl ?_
          have g7 := hB (i4)
          refine tn_bald (z := i4) (v := fT (i4)) dX9_scanOne_42 h_rx1 (by omega) (by omega) (by omega) (hrow (i4) (by omega) (by omega)) ?_
          refine tn_bipush dX9_scanOne_43 (by decide) ?_
          refine tn_isub dX9_scanOne_45 ?_
          refine tn_ior dX9_scanOne_46 ?_
          rw [← sh5_i]
          have g8 := sh5_r (σ.2.1 86 a) ((fT (i4)) - 96)
          refine tn_putV (ci := 9) (i := 5) (n := 86) (r := false) (v := sh5 (σ.2.1 86 a) ((fT (i4)) - 96)) tyX9 tyX9_ok nmX9 dX9_scanOne_47 rfl lay_9 (by decide) fl9_55 rfl (tyX9_ok 5 (by decide)) rfl rfl rfl h_a rfl rfl ?_
          refine tn_iinc (q0 := 4) (L' := [(4, .int (iI (i4 + 1))), (0, .ref a), (1, .ref rx1), (2, .int (iI c2)), (3, .int (iI c3))]) dX9_scanOne_50 rfl (by decide) rfl ?_
          refine tn_goto (tgt := 8) dX9_scanOne_53 (by decide) ?_
          have q9 : 97 ≤ Sx i4 ∧ Sx i4 ≤ 122 := by rw [hSx]; exact (svC_eq hB (by omega) (by decide) (by decide)).mpr ⟨by omega, by omega⟩
          have q9e : Sx i4 = fT (i4) := is_byte hSx (by omega) (by omega)
          have q10 : (sA 86 a (sh5 (σ.2.1 86 a) ((fT (i4)) - 96)) σ).2.1 86 a = sh5 (σ.2.1 86 a) ((fT (i4)) - 96) := ra_eq
          exact tn_sub [1, 2, 3, 4, 0] rfl (ih _ (by omega) (i4 + 1) (sA 86 a (sh5 (σ.2.1 86 a) ((fT (i4)) - 96)) σ) (hw.put (by decide) (by decide) (fo_86 (by omega))) ((FrC.rfl.trans (FrC.sub hF (by decide))).put (by decide) (by decide)) (by omega) (by omega) (hlt.up (by omega) q9) (by rw [q10]; have w9 := NUM9.up hnu hlt (by omega) q9; rw [q9e] at w9; exact w9) (RWE.cg hrow (sA_k (by omega))) (TRT.pt htr (by decide)) rfl)
set_option maxHeartbeats 1000000 in
set_option maxRecDepth 20000 in
theorem l_X9_scanOne_fw_88 (d : Nat) {T : CT} {σ0 : MS} {a : Nat} {rx1 : Nat} {c2 : Int} {c3 : Int} {fT : Int → Int} {Sx : Int → Int} {post : Option Value → CT → MS → Prop} (h_a : OB T a 9) (h_rx1 : (T rx1).1 = 2) (l_rx1 : (T rx1).2 ≤ 1000000) (r_c2 : 0 ≤ c2 ∧ c2 ≤ 1200) (r_c3 : 0 ≤ c3 ∧ c3 ≤ 1200) (hw0 : WT T σ0) (ht : (T rx1).2 = 1200) (hB : BYT fT) (hSx : Sx = svC fT c2) (hx_137 : ∀ (i4 : Int) (σ : MS) , (WT T σ) → (FrC T [86] σ0 σ) → (0 ≤ i4 ∧ i4 ≤ 1200) → (c3 ≤ i4 ∧ i4 ≤ c2) → (DGN Sx c3 i4) → (DVQ Sx c3 i4 (σ.2.1 86 a)) → (RWE σ rx1 fT c2) → (TRT T σ0 σ) → (¬ (48 ≤ Sx i4 ∧ Sx i4 ≤ 57)) → Tn (d + 2) m_X9_scanOne 137 T σ [(0, .ref a), (1, .ref rx1), (2, .int (iI c2)), (3, .int (iI c3)), (4, .int (iI i4))] [] post) : ∀ (n : Nat) (i4 : Int) (σ : MS) , (WT T σ) → (FrC T [86] σ0 σ) → (0 ≤ i4 ∧ i4 ≤ 1200) → (c3 ≤ i4 ∧ i4 ≤ c2) → (DGN Sx c3 i4) → (DVQ Sx c3 i4 (σ.2.1 86 a)) → (RWE σ rx1 fT c2) → (TRT T σ0 σ) → (2147483700 - i4).toNat = n → Tn (d + 2) m_X9_scanOne 88 T σ [(0, .ref a), (1, .ref rx1), (2, .int (iI c2)), (3, .int (iI c3)), (4, .int (iI i4))] [] post := by
  intro n
  induction n using Nat.strongRecOn with
  | _ n ih =>
    intro i4 σ hw hF r_i4 h0 hdg hdv hrow htr hm
    refine tn_iload dX9_scanOne_88 4 rfl ?_
    refine tn_iload_n dX9_scanOne_90 rfl 2 rfl ?_
    refine tn_icmp_ge (tgt := 137) dX9_scanOne_91 (by decide) ⟨by omega, by omega⟩ ⟨by omega, by omega⟩ (fun h1 => ?_) (fun h1 => ?_)
    · exact tn_sub [0, 1, 2, 3, 4] rfl (hx_137 (i4) σ hw (FrC.rfl.trans (FrC.sub hF (by decide))) (by omega) (by omega) hdg hdv hrow htr (not_dig hSx hB (by omega)))
    · refine tn_aload_n dX9_scanOne_94 rfl 1 rfl ?_
      refine tn_iload dX9_scanOne_95 4 rfl ?_
      have g2 := hB (i4)
      refine tn_bald (z := i4) (v := fT (i4)) dX9_scanOne_97 h_rx1 (by omega) (by omega) (by omega) (hrow (i4) (by omega) (by omega)) ?_
      refine tn_bipush dX9_scanOne_98 (by decide) ?_
      refine tn_icmp_lt (tgt := 137) dX9_scanOne_100 (by decide) ⟨by omega, by omega⟩ ⟨by decide, by decide⟩ (fun h3 => ?_) (fun h3 => ?_)
      · exact tn_sub [0, 1, 2, 3, 4] rfl (hx_137 (i4) σ hw (FrC.rfl.trans (FrC.sub hF (by decide))) (by omega) (by omega) hdg hdv hrow htr (not_dig hSx hB (by omega)))
      · refine tn_aload_n dX9_scanOne_103 rfl 1 rfl ?_
        refine tn_iload dX9_scanOne_104 4 rfl ?_
        have g4 := hB (i4)
        refine tn_bald (z := i4) (v := fT (i4)) dX9_scanOne_106 h_rx1 (by omega) (by omega) (by omega) (hrow (i4) (by omega) (by omega)) ?_
        refine tn_bipush dX9_scanOne_107 (by decide) ?_
        refine tn_icmp_gt (tgt := 137) dX9_scanOne_109 (by decide) ⟨by omega, by omega⟩ ⟨by decide, by decide⟩ (fun h5 => ?_) (fun h5 => ?_)
        · exact tn_sub [0, 1, 2, 3, 4] rfl (hx_137 (i4) σ hw (FrC.rfl.trans (FrC.sub hF (by decide))) (by omega) (by omega) hdg hdv hrow htr (not_dig hSx hB (by omega)))
        · refine tn_aload_n dX9_scanOne_112 rfl 0 rfl ?_
          refine tn_aload_n dX9_scanOne_113 rfl 0 rfl ?_
          refine tn_getI (ci := 9) (i := 5) (n := 86) (t := σ.2.1 86 a) dX9_scanOne_114 rfl lay_9 (by decide) fl9_55 h_a rfl rfl (rfl) ?_
          have g6 : ((-2147483648 : Int) ≤ σ.2.1 86 a ∧ σ.2.1 86 a ≤ 2147483647) := wf_86 hw h_a
          refine tn_bipush dX9_scanOne_117 (by decide) ?_
          refine tn_imul dX9_scanOne_119 ?_
          rw [show iI ((σ.2.1 86 a) * 10) = iI (iw ((σ.2.1 86 a) * 10)) from (iI_self _).symm]
          have g7r : -2147483648 ≤ iw ((σ.2.1 86 a) * 10) ∧ iw ((σ.2.1 86 a) * 10) ≤ 2147483647 := inR_toInt _
          refine tn_aload_n dX9_scanOne_120 rfl 1 rfl ?_
          refine tn_iload dX9_scanOne_121 4 rfl ?_
          have g8 := hB (i4)
          refine tn_bald (z := i4) (v := fT (i4)) dX9_scanOne_123 h_rx1 (by omega) (by omega) (by omega) (hrow (i4) (by omega) (by omega)) ?_
          refine tn_bipush dX9_scanOne_124 (by decide) ?_
          refine tn_isub dX9_scanOne_126 ?_
          refine tn_iadd dX9_scanOne_127 ?_
          rw [show iI ((iw ((σ.2.1 86 a) * 10)) + ((fT (i4)) - 48)) = iI (iw ((iw ((σ.2.1 86 a) * 10)) + ((fT (i4)) - 48))) from (iI_self _).symm]
          have g9r : -2147483648 ≤ iw ((iw ((σ.2.1 86 a) * 10)) + ((fT (i4)) - 48)) ∧ iw ((iw ((σ.2.1 86 a) * 10)) + ((fT (i4)) - 48)) ≤ 2147483647 := inR_toInt _
          refine tn_putV (ci := 9) (i := 5) (n := 86) (r := false) (v := iw ((iw ((σ.2.1 86 a) * 10)) + ((fT (i4)) - 48))) tyX9 tyX9_ok nmX9 dX9_scanOne_128 rfl lay_9 (by decide) fl9_55 rfl (tyX9_ok 5 (by decide)) rfl rfl rfl h_a rfl rfl ?_
          refine tn_iinc (q0 := 4) (L' := [(4, .int (iI (i4 + 1))), (0, .ref a), (1, .ref rx1), (2, .int (iI c2)), (3, .int (iI c3))]) dX9_scanOne_131 rfl (by decide) rfl ?_
          refine tn_goto (tgt := 88) dX9_scanOne_134 (by decide) ?_
          have q10 : 48 ≤ Sx i4 ∧ Sx i4 ≤ 57 := by rw [hSx]; exact (svC_eq hB (by omega) (by decide) (by decide)).mpr ⟨by omega, by omega⟩
          have q10e : Sx i4 = fT (i4) := is_byte hSx (by omega) (by omega)
          have q11 : (sA 86 a (iw ((iw ((σ.2.1 86 a) * 10)) + ((fT (i4)) - 48))) σ).2.1 86 a = iw ((iw ((σ.2.1 86 a) * 10)) + ((fT (i4)) - 48)) := ra_eq
          exact tn_sub [1, 2, 3, 4, 0] rfl (ih _ (by omega) (i4 + 1) (sA 86 a (iw ((iw ((σ.2.1 86 a) * 10)) + ((fT (i4)) - 48))) σ) (hw.put (by decide) (by decide) (fo_86 (by omega))) ((FrC.rfl.trans (FrC.sub hF (by decide))).put (by decide) (by decide)) (by omega) (by omega) (hdg.up (by omega) q10) (by rw [q11]; have w9 := DVQ.up hdv (by omega) (by omega) q10; rw [q10e] at w9; exact w9) (RWE.cg hrow (sA_k (by omega))) (TRT.pt htr (by decide)) rfl)
set_option maxHeartbeats 1000000 in
set_option maxRecDepth 20000 in
theorem k_X9_scanOne_fw (d : Nat) {T : CT} {σ : MS} {a : Nat} {t : Nat} {l : Int} {i : Int} {fT Sx : Int → Int} (ha : OB T a 9) (h_t : (T t).1 = 2) (l_t : (T t).2 ≤ 1000000) (h_l : -2147483648 ≤ l ∧ l ≤ 2147483647) (h_i : -2147483648 ≤ i ∧ i ≤ 2147483647) (hw : WT T σ) (hi : 0 ≤ i ∧ i < l ∧ l ≤ 1200) (ht : (T t).2 = 1200) (hfT : RWE σ t fT l) (hB : BYT fT) (hSx : Sx = svC fT l) : Tn (d + 2) m_X9_scanOne 0 T σ [(0, .ref a), (1, .ref t), (2, .int (iI l)), (3, .int (iI i))] [] (fun ro T2 σ2 => ∃ v : Int, ro = some (.int (iI v)) ∧ T = T2 ∧ WT T2 σ2 ∧ FrC T [85, 86] σ σ2 ∧ (-2147483648 ≤ v ∧ v ≤ 2147483647) ∧ (i < v ∧ v ≤ l) ∧ (SOQ Sx i v (σ2.2.1 85 a) (σ2.2.1 86 a)) ∧ (TRT T σ σ2)) := by
  have hrow := hfT
  refine tn_iload_n dX9_scanOne_0 rfl 3 rfl ?_
  refine tn_istore (L' := [(4, .int (iI i)), (0, .ref a), (1, .ref t), (2, .int (iI l)), (3, .int (iI i))]) dX9_scanOne_1 (by decide) rfl ?_
  refine tn_aload_n dX9_scanOne_3 rfl 1 rfl ?_
  refine tn_iconst dX9_scanOne_4 ?_
  refine tn_putV (ci := 9) (i := 5) (n := 86) (r := false) (v := 0) tyX9 tyX9_ok nmX9 dX9_scanOne_5 rfl lay_9 (by decide) fl9_55 rfl (tyX9_ok 5 (by decide)) rfl rfl rfl ha rfl rfl ?_
  have q1 : (sA 86 a (0) σ).2.1 86 a = 0 := ra_eq
  refine tn_sub [1, 2, 3, 4, 0] rfl (l_X9_scanOne_fw_8 (d) (T := T) (σ0 := (sA 86 a (0) σ)) (a := a) (rx1 := t) (c2 := l) (c3 := i) (fT := fT) (Sx := Sx) ha h_t (by omega) (by omega) (by omega) (hw.put (by decide) (by decide) (fo_86 (by omega))) ht hB hSx (fun i42 σ3 w6 F7 r8 f9 f10 f11 f12 f13 f14 => ?_) _ (i) (sA 86 a (0) σ) (hw.put (by decide) (by decide) (fo_86 (by omega))) FrC.rfl (by omega) (by omega) (fun j hj => absurd hj (by omega)) (fun _ => by rw [q1, show (i - i).toNat = 0 by omega]; rfl) (RWE.cg hrow (sA_k (by omega))) TRT.rfl rfl)
  show Tn _ _ 56 T σ3 [(0, .ref a), (1, .ref t), (2, .int (iI l)), (3, .int (iI i)), (4, .int (iI i42))] [] _
  refine tn_iload dX9_scanOne_56 4 rfl ?_
  refine tn_iload_n dX9_scanOne_58 rfl 3 rfl ?_
  refine tn_icmp_le (tgt := 88) dX9_scanOne_59 (by decide) ⟨by omega, by omega⟩ ⟨by omega, by omega⟩ (fun h15 => ?_) (fun h15 => ?_)
  · have w160 : i42 = i := by omega
    have w16 : σ3.2.1 86 a = 0 := by have w9 := f11 (by omega); rw [show (i42 - i).toNat = 0 by omega] at w9; exact w9
    refine tn_sub [0, 1, 2, 3, 4] rfl (l_X9_scanOne_fw_88 (d) (T := T) (σ0 := σ3) (a := a) (rx1 := t) (c2 := l) (c3 := i) (fT := fT) (Sx := Sx) ha h_t (by omega) (by omega) (by omega) w6 ht hB hSx (fun i417 σ18 w21 F22 r23 f24 f25 f26 f27 f28 f29 => ?_) _ (i42) σ3 w6 FrC.rfl (by omega) (by omega) (fun j hj => absurd hj (by omega)) (by rw [w160]; exact DVQ.nl w16) (RWE.cg (RWE.cg hrow (sA_k (by omega))) (F7.2 t (by rw [h_t]; unfold HT; omega) (by rw [h_t]; decide))) TRT.rfl rfl)
    show Tn _ _ 137 T σ18 [(0, .ref a), (1, .ref t), (2, .int (iI l)), (3, .int (iI i)), (4, .int (iI i417))] [] _
    refine tn_iload dX9_scanOne_137 4 rfl ?_
    refine tn_iload_n dX9_scanOne_139 rfl 3 rfl ?_
    refine tn_icmp_le (tgt := 168) dX9_scanOne_140 (by decide) ⟨by omega, by omega⟩ ⟨by omega, by omega⟩ (fun h30 => ?_) (fun h30 => ?_)
    · refine tn_aload_n dX9_scanOne_168 rfl 0 rfl ?_
      refine tn_aload_n dX9_scanOne_169 rfl 1 rfl ?_
      refine tn_iload_n dX9_scanOne_170 rfl 3 rfl ?_
      have g31 := hB (i)
      refine tn_bald (z := i) (v := fT (i)) dX9_scanOne_171 h_t (by omega) (by omega) (by omega) ((RWE.cg (RWE.cg (RWE.cg hrow (sA_k (by omega))) (F7.2 t (by rw [h_t]; unfold HT; omega) (by rw [h_t]; decide))) (F22.2 t (by rw [h_t]; unfold HT; omega) (by rw [h_t]; decide))) (i) (by omega) (by omega)) ?_
      refine tn_callS (M := m_X9_scanOne) (pc := 172) (ix := 62) (M' := m_X9_isSign) (As := [.int (iI (fT (i)))]) (rest := [.ref a]) dX9_scanOne_172 ok_X9_isSign stt_X9_isSign ml9_62 np_X9_isSign rfl (Nat.le_of_ble_eq_true rfl) (Nat.le_of_ble_eq_true rfl) rfl (k_X9_isSign_f (d) (T := T) (σ := σ18) (o := fT (i)) (by omega) w21 ) (fun r32 T34 σ33 gt35 hp => ?_)
      obtain ⟨v38, rfl, rfl, rfl, f36, f37⟩ := hp
      clear gt35
      show Tn _ _ 175 T σ18 [(0, .ref a), (1, .ref t), (2, .int (iI l)), (3, .int (iI i)), (4, .int (iI i417))] [.int (iI v38), .ref a] _
      refine tn_if_eq (tgt := 184) dX9_scanOne_175 (by decide) ⟨by omega, by omega⟩ (fun h39 => ?_) (fun h39 => ?_)
      · refine tn_sipush dX9_scanOne_184 (by decide) ?_
        refine tn_putV (ci := 9) (i := 4) (n := 85) (r := false) (v := 263) tyX9 tyX9_ok nmX9 dX9_scanOne_187 rfl lay_9 (by decide) fl9_30 rfl (tyX9_ok 4 (by decide)) rfl rfl rfl ha rfl rfl ?_
        refine tn_iload_n dX9_scanOne_190 rfl 3 rfl ?_
        refine tn_iconst dX9_scanOne_191 ?_
        refine tn_iadd dX9_scanOne_192 ?_
        have q40 : (sA 85 a (263) σ18).2.1 85 a = 263 := ra_eq
        have q41 : (sA 85 a (263) σ18).2.1 86 a = σ18.2.1 86 a := rc_o (by decide) (rfl)
        have w42a : ¬ (97 ≤ svC fT l i ∧ svC fT l i ≤ 122) := by rw [← hSx, show i = i42 by omega]; exact f14
        have w42b : ¬ (48 ≤ svC fT l i ∧ svC fT l i ≤ 57) := by rw [← hSx, show i = i417 by omega]; exact f29
        have w42 := (so_sg2 (x := σ18.2.1 86 a) hB (by omega) w42a w42b f37).2 (by omega)
        exact tn_iret rfl dX9_scanOne_193 ⟨_, rfl, rfl, (w21.put (by decide) (by decide) (fo_85 (by omega))), ((((FrC.rfl.put (by decide) (by decide)).trans (FrC.sub F7 (by decide))).trans (FrC.sub F22 (by decide))).put (by decide) (by decide)), by omega, by omega, by rw [q40, q41, hSx]; exact w42, (TRT.pt (TRT.trans (TRT.trans (TRT.pt TRT.rfl (by decide)) f13) f28) (by decide))⟩
      · refine tn_aload_n dX9_scanOne_178 rfl 1 rfl ?_
        refine tn_iload_n dX9_scanOne_179 rfl 3 rfl ?_
        have g43 := hB (i)
        refine tn_bald (z := i) (v := fT (i)) dX9_scanOne_180 h_t (by omega) (by omega) (by omega) ((RWE.cg (RWE.cg (RWE.cg hrow (sA_k (by omega))) (F7.2 t (by rw [h_t]; unfold HT; omega) (by rw [h_t]; decide))) (F22.2 t (by rw [h_t]; unfold HT; omega) (by rw [h_t]; decide))) (i) (by omega) (by omega)) ?_
        refine tn_goto (tgt := 187) dX9_scanOne_181 (by decide) ?_
        refine tn_putV (ci := 9) (i := 4) (n := 85) (r := false) (v := fT (i)) tyX9 tyX9_ok nmX9 dX9_scanOne_187 rfl lay_9 (by decide) fl9_30 rfl (tyX9_ok 4 (by decide)) rfl rfl rfl ha rfl rfl ?_
        refine tn_iload_n dX9_scanOne_190 rfl 3 rfl ?_
        refine tn_iconst dX9_scanOne_191 ?_
        refine tn_iadd dX9_scanOne_192 ?_
        have q44 : (sA 85 a (fT (i)) σ18).2.1 85 a = fT (i) := ra_eq
        have q45 : (sA 85 a (fT (i)) σ18).2.1 86 a = σ18.2.1 86 a := rc_o (by decide) (rfl)
        have w46a : ¬ (97 ≤ svC fT l i ∧ svC fT l i ≤ 122) := by rw [← hSx, show i = i42 by omega]; exact f14
        have w46b : ¬ (48 ≤ svC fT l i ∧ svC fT l i ≤ 57) := by rw [← hSx, show i = i417 by omega]; exact f29
        have w46 := (so_sg2 (x := σ18.2.1 86 a) hB (by omega) w46a w46b f37).1 (by omega)
        exact tn_iret rfl dX9_scanOne_193 ⟨_, rfl, rfl, (w21.put (by decide) (by decide) (fo_85 (by omega))), ((((FrC.rfl.put (by decide) (by decide)).trans (FrC.sub F7 (by decide))).trans (FrC.sub F22 (by decide))).put (by decide) (by decide)), by omega, by omega, by rw [q44, q45, hSx]; exact w46, (TRT.pt (TRT.trans (TRT.trans (TRT.pt TRT.rfl (by decide)) f13) f28) (by decide))⟩
    · refine tn_aload_n dX9_scanOne_143 rfl 0 rfl ?_
      refine tn_iload dX9_scanOne_144 4 rfl ?_
      refine tn_iload_n dX9_scanOne_146 rfl 3 rfl ?_
      refine tn_isub dX9_scanOne_147 ?_
      refine tn_bipush dX9_scanOne_148 (by decide) ?_
      refine tn_icmp_le (tgt := 159) dX9_scanOne_150 (by decide) ⟨by omega, by omega⟩ ⟨by decide, by decide⟩ (fun h47 => ?_) (fun h47 => ?_)
      · refine tn_sipush dX9_scanOne_159 (by decide) ?_
        refine tn_putV (ci := 9) (i := 4) (n := 85) (r := false) (v := 257) tyX9 tyX9_ok nmX9 dX9_scanOne_162 rfl lay_9 (by decide) fl9_30 rfl (tyX9_ok 4 (by decide)) rfl rfl rfl ha rfl rfl ?_
        refine tn_iload dX9_scanOne_165 4 rfl ?_
        have q48 : (sA 85 a (257) σ18).2.1 85 a = 257 := ra_eq
        have q49 : (sA 85 a (257) σ18).2.1 86 a = σ18.2.1 86 a := rc_o (by decide) (rfl)
        have w50 := (so_dig (x := σ18.2.1 86 a) (by omega) (by omega) f25 f26 f29).1 (by omega)
        exact tn_iret rfl dX9_scanOne_167 ⟨_, rfl, rfl, (w21.put (by decide) (by decide) (fo_85 (by omega))), ((((FrC.rfl.put (by decide) (by decide)).trans (FrC.sub F7 (by decide))).trans (FrC.sub F22 (by decide))).put (by decide) (by decide)), by omega, by omega, by rw [q48, q49]; exact w50, (TRT.pt (TRT.trans (TRT.trans (TRT.pt TRT.rfl (by decide)) f13) f28) (by decide))⟩
      · refine tn_sipush dX9_scanOne_153 (by decide) ?_
        refine tn_goto (tgt := 162) dX9_scanOne_156 (by decide) ?_
        refine tn_putV (ci := 9) (i := 4) (n := 85) (r := false) (v := 263) tyX9 tyX9_ok nmX9 dX9_scanOne_162 rfl lay_9 (by decide) fl9_30 rfl (tyX9_ok 4 (by decide)) rfl rfl rfl ha rfl rfl ?_
        refine tn_iload dX9_scanOne_165 4 rfl ?_
        have q51 : (sA 85 a (263) σ18).2.1 85 a = 263 := ra_eq
        have q52 : (sA 85 a (263) σ18).2.1 86 a = σ18.2.1 86 a := rc_o (by decide) (rfl)
        have w53 := (so_dig (x := σ18.2.1 86 a) (by omega) (by omega) f25 f26 f29).2 (by omega)
        exact tn_iret rfl dX9_scanOne_167 ⟨_, rfl, rfl, (w21.put (by decide) (by decide) (fo_85 (by omega))), ((((FrC.rfl.put (by decide) (by decide)).trans (FrC.sub F7 (by decide))).trans (FrC.sub F22 (by decide))).put (by decide) (by decide)), by omega, by omega, by rw [q51, q52]; exact w53, (TRT.pt (TRT.trans (TRT.trans (TRT.pt TRT.rfl (by decide)) f13) f28) (by decide))⟩
  · refine tn_aload_n dX9_scanOne_62 rfl 0 rfl ?_
    refine tn_iload dX9_scanOne_63 4 rfl ?_
    refine tn_iload_n dX9_scanOne_65 rfl 3 rfl ?_
    refine tn_isub dX9_scanOne_66 ?_
    refine tn_bipush dX9_scanOne_67 (by decide) ?_
    refine tn_icmp_le (tgt := 78) dX9_scanOne_69 (by decide) ⟨by omega, by omega⟩ ⟨by decide, by decide⟩ (fun h54 => ?_) (fun h54 => ?_)
    · refine tn_aload_n dX9_scanOne_78 rfl 0 rfl ?_
      refine tn_callV (M := m_X9_scanOne) (pc := 79) (ix := 58) (ci := 9) (M' := m_X9_wordKind) (As := []) (rest := [.ref a]) dX9_scanOne_79 ok_X9_wordKind im_X9_wordKind se_X9_wordKind ml9_58 np_X9_wordKind rfl rfl ha rfl (Nat.le_of_ble_eq_true rfl) (Nat.le_of_ble_eq_true rfl) rfl (k_X9_wordKind_f (d) (T := T) (σ := σ3) (a := a) ha w6 ) (fun r55 T57 σ56 gt58 hp => ?_)
      obtain ⟨v61, rfl, rfl, rfl, f59, f60⟩ := hp
      clear gt58
      show Tn _ _ 82 T σ3 [(0, .ref a), (1, .ref t), (2, .int (iI l)), (3, .int (iI i)), (4, .int (iI i42))] [.int (iI v61), .ref a] _
      refine tn_putV (ci := 9) (i := 4) (n := 85) (r := false) (v := v61) tyX9 tyX9_ok nmX9 dX9_scanOne_82 rfl lay_9 (by decide) fl9_30 rfl (tyX9_ok 4 (by decide)) rfl rfl rfl ha rfl rfl ?_
      refine tn_iload dX9_scanOne_85 4 rfl ?_
      have q62 : (sA 85 a (v61) σ3).2.1 85 a = v61 := ra_eq
      have q63 : (sA 85 a (v61) σ3).2.1 86 a = σ3.2.1 86 a := rc_o (by decide) (rfl)
      have w64 := (so_let (by omega) (by omega) f10 f11 f14).1 (by omega)
      exact tn_iret rfl dX9_scanOne_87 ⟨_, rfl, rfl, (w6.put (by decide) (by decide) (fo_85 (by omega))), (((FrC.rfl.put (by decide) (by decide)).trans (FrC.sub F7 (by decide))).put (by decide) (by decide)), by omega, by omega, by rw [q62, q63, f60]; exact w64, (TRT.pt (TRT.trans (TRT.pt TRT.rfl (by decide)) f13) (by decide))⟩
    · refine tn_sipush dX9_scanOne_72 (by decide) ?_
      refine tn_goto (tgt := 82) dX9_scanOne_75 (by decide) ?_
      refine tn_putV (ci := 9) (i := 4) (n := 85) (r := false) (v := 263) tyX9 tyX9_ok nmX9 dX9_scanOne_82 rfl lay_9 (by decide) fl9_30 rfl (tyX9_ok 4 (by decide)) rfl rfl rfl ha rfl rfl ?_
      refine tn_iload dX9_scanOne_85 4 rfl ?_
      have q65 : (sA 85 a (263) σ3).2.1 85 a = 263 := ra_eq
      have q66 : (sA 85 a (263) σ3).2.1 86 a = σ3.2.1 86 a := rc_o (by decide) (rfl)
      have w67 := (so_let (by omega) (by omega) f10 f11 f14).2 (by omega)
      exact tn_iret rfl dX9_scanOne_87 ⟨_, rfl, rfl, (w6.put (by decide) (by decide) (fo_85 (by omega))), (((FrC.rfl.put (by decide) (by decide)).trans (FrC.sub F7 (by decide))).put (by decide) (by decide)), by omega, by omega, by rw [q65, q66]; exact w67, (TRT.pt (TRT.trans (TRT.pt TRT.rfl (by decide)) f13) (by decide))⟩
end
section
set_option maxHeartbeats 1000000 in
set_option maxRecDepth 20000 in
theorem k_X9_next_f0w (d : Nat) {T : CT} {σ : MS} {a : Nat} {Sx : Int → Int} {nx : Nat} (ha : OB T a 9) (hw : WT T σ) (hT : TKI σ a) (h1 : σ.2.1 84 a = -1) (hr : TRW σ a Sx nx) (he : TEN Sx nx) (hn : nx ≤ 1200) : Tn (d + 1) m_X9_next 0 T σ [(0, .ref a)] [] (fun ro T2 σ2 => ro = none ∧ T = T2 ∧ WT T2 σ2 ∧ FrC T [84, 85, 86, 87] σ σ2 ∧ (TKI σ2 a) ∧ (σ.2.1 84 a ≤ σ2.2.1 84 a) ∧ (ADV σ σ2 a) ∧ (TKT σ2 a Sx nx 0) ∧ (TRT T σ σ2)) := by
  refine tn_aload_n dX9_next_0 rfl 0 rfl ?_
  refine tn_getI (ci := 9) (i := 3) (n := 84) (t := σ.2.1 84 a) dX9_next_1 rfl lay_9 (by decide) fl9_45 ha rfl rfl (rfl) ?_
  have g1 : ((-1 : Int) ≤ σ.2.1 84 a ∧ σ.2.1 84 a ≤ 1200) := wf_84 hw ha
  refine tn_iconst dX9_next_4 ?_
  refine tn_iadd dX9_next_5 ?_
  refine tn_aload_n dX9_next_6 rfl 0 rfl ?_
  obtain ⟨xq2, hx3, hk4, hl5⟩ : ∃ x : Nat, σ.2.1 81 a = (x : Int) ∧ AR T x 12 1201 1201 := wf_81 hw ha
  have hk4i : IA T xq2 := by unfold IA; omega
  refine tn_getR (ci := 9) (i := 0) (n := 81) (x := xq2) dX9_next_7 rfl lay_9 (by decide) fl9_9 ha rfl rfl (hx3) ?_
  refine tn_alenX dX9_next_10 (Or.inl hk4i) ?_
  refine tn_icmp_ge (tgt := 118) dX9_next_11 (by decide) ⟨by omega, by omega⟩ ⟨by omega, by omega⟩ (fun h6 => ?_) (fun h6 => ?_)
  · have q7 : σ.2.1 84 a = σ.2.1 84 a := rfl
    have q8 : σ.2.1 85 a = σ.2.1 85 a := rfl
    exact tn_vret rfl dX9_next_118 ⟨rfl, rfl, hw, FrC.rfl, False.elim (by omega), False.elim (by omega), False.elim (by omega), False.elim (by omega), False.elim (by omega)⟩
  · refine tn_aload_n dX9_next_14 rfl 0 rfl ?_
    refine tn_getI (ci := 9) (i := 3) (n := 84) (t := σ.2.1 84 a) dX9_next_15 rfl lay_9 (by decide) fl9_45 ha rfl rfl (rfl) ?_
    refine tn_iconst dX9_next_18 ?_
    refine tn_iadd dX9_next_19 ?_
    refine tn_aload_n dX9_next_20 rfl 0 rfl ?_
    obtain ⟨xq9, hx10, hk11, hl12⟩ : ∃ x : Nat, σ.2.1 82 a = (x : Int) ∧ AR T x 22 1201 1201 := wf_82 hw ha
    have hk11i : IA T xq9 := by unfold IA; omega
    refine tn_getR (ci := 9) (i := 1) (n := 82) (x := xq9) dX9_next_21 rfl lay_9 (by decide) fl9_15 ha rfl rfl (hx10) ?_
    refine tn_alenX dX9_next_24 (Or.inl hk11i) ?_
    refine tn_icmp_ge (tgt := 118) dX9_next_25 (by decide) ⟨by omega, by omega⟩ ⟨by omega, by omega⟩ (fun h13 => ?_) (fun h13 => ?_)
    · have q14 : σ.2.1 84 a = σ.2.1 84 a := rfl
      have q15 : σ.2.1 85 a = σ.2.1 85 a := rfl
      exact tn_vret rfl dX9_next_118 ⟨rfl, rfl, hw, FrC.rfl, False.elim (by omega), False.elim (by omega), False.elim (by omega), False.elim (by omega), False.elim (by omega)⟩
    · refine tn_aload_n dX9_next_28 rfl 0 rfl ?_
      refine tn_getI (ci := 9) (i := 3) (n := 84) (t := σ.2.1 84 a) dX9_next_29 rfl lay_9 (by decide) fl9_45 ha rfl rfl (rfl) ?_
      refine tn_iconst dX9_next_32 ?_
      refine tn_iadd dX9_next_33 ?_
      refine tn_aload_n dX9_next_34 rfl 0 rfl ?_
      obtain ⟨xq16, hx17, hk18, hl19⟩ : ∃ x : Nat, σ.2.1 83 a = (x : Int) ∧ AR T x 23 1201 1201 := wf_83 hw ha
      have hk18i : IA T xq16 := by unfold IA; omega
      refine tn_getR (ci := 9) (i := 2) (n := 83) (x := xq16) dX9_next_35 rfl lay_9 (by decide) fl9_18 ha rfl rfl (hx17) ?_
      refine tn_alenX dX9_next_38 (Or.inl hk18i) ?_
      refine tn_icmp_ge (tgt := 118) dX9_next_39 (by decide) ⟨by omega, by omega⟩ ⟨by omega, by omega⟩ (fun h20 => ?_) (fun h20 => ?_)
      · have q21 : σ.2.1 84 a = σ.2.1 84 a := rfl
        have q22 : σ.2.1 85 a = σ.2.1 85 a := rfl
        exact tn_vret rfl dX9_next_118 ⟨rfl, rfl, hw, FrC.rfl, False.elim (by omega), False.elim (by omega), False.elim (by omega), False.elim (by omega), False.elim (by omega)⟩
      · refine tn_aload_n dX9_next_42 rfl 0 rfl ?_
        refine tn_getI (ci := 9) (i := 3) (n := 84) (t := σ.2.1 84 a) dX9_next_43 rfl lay_9 (by decide) fl9_45 ha rfl rfl (rfl) ?_
        refine tn_if_lt (tgt := 69) dX9_next_46 (by decide) ⟨by omega, by omega⟩ (fun h23 => ?_) (fun h23 => ?_)
        · refine tn_aload_n dX9_next_69 rfl 0 rfl ?_
          refine tn_dup dX9_next_70 rfl ?_
          refine tn_getI (ci := 9) (i := 3) (n := 84) (t := σ.2.1 84 a) dX9_next_71 rfl lay_9 (by decide) fl9_45 ha rfl rfl (rfl) ?_
          refine tn_iconst dX9_next_74 ?_
          refine tn_iadd dX9_next_75 ?_
          refine tn_putV (ci := 9) (i := 3) (n := 84) (r := false) (v := (σ.2.1 84 a) + 1) tyX9 tyX9_ok nmX9 dX9_next_76 rfl lay_9 (by decide) fl9_45 rfl (tyX9_ok 3 (by decide)) rfl rfl rfl ha rfl rfl ?_
          refine tn_aload_n dX9_next_79 rfl 0 rfl ?_
          refine tn_aload_n dX9_next_80 rfl 0 rfl ?_
          refine tn_getR (ci := 9) (i := 0) (n := 81) (x := xq2) dX9_next_81 rfl lay_9 (by decide) fl9_9 ha rfl rfl (rc_o (by decide) (hx3)) ?_
          refine tn_aload_n dX9_next_84 rfl 0 rfl ?_
          refine tn_getI (ci := 9) (i := 3) (n := 84) (t := (σ.2.1 84 a) + 1) dX9_next_85 rfl lay_9 (by decide) fl9_45 ha rfl rfl (ra_eq) ?_
          refine tn_ialdX (z := (σ.2.1 84 a) + 1) (hw.put (by decide) (by decide) (fo_84 (by omega))) dX9_next_88 hk4i (by omega) (by omega) (by omega) (fun v24 g25q g25 g25k => ?_)
          have g25u := g25k.2.2.1 hk4
          have g25Q : v24 = σ.2.1 (1000 + xq2) ((σ.2.1 84 a) + 1) := by rw [g25q, sA_k (by omega)]
          clear g25k g25q
          refine tn_putV (ci := 9) (i := 4) (n := 85) (r := false) (v := v24) tyX9 tyX9_ok nmX9 dX9_next_89 rfl lay_9 (by decide) fl9_30 rfl (tyX9_ok 4 (by decide)) rfl rfl rfl ha rfl rfl ?_
          refine tn_aload_n dX9_next_92 rfl 0 rfl ?_
          refine tn_aload_n dX9_next_93 rfl 0 rfl ?_
          refine tn_getR (ci := 9) (i := 1) (n := 82) (x := xq9) dX9_next_94 rfl lay_9 (by decide) fl9_15 ha rfl rfl (rc_o (by decide) (rc_o (by decide) (hx10))) ?_
          refine tn_aload_n dX9_next_97 rfl 0 rfl ?_
          refine tn_getI (ci := 9) (i := 3) (n := 84) (t := (σ.2.1 84 a) + 1) dX9_next_98 rfl lay_9 (by decide) fl9_45 ha rfl rfl (rc_o (by decide) (ra_eq)) ?_
          refine tn_ialdX (z := (σ.2.1 84 a) + 1) ((hw.put (by decide) (by decide) (fo_84 (by omega))).put (by decide) (by decide) (fo_85 (by omega))) dX9_next_101 hk11i (by omega) (by omega) (by omega) (fun v26 g27q g27 g27k => ?_)
          have g27Q : v26 = σ.2.1 (1000 + xq9) ((σ.2.1 84 a) + 1) := by rw [g27q, sA_k (by omega), sA_k (by omega)]
          clear g27k g27q
          refine tn_putV (ci := 9) (i := 5) (n := 86) (r := false) (v := v26) tyX9 tyX9_ok nmX9 dX9_next_102 rfl lay_9 (by decide) fl9_55 rfl (tyX9_ok 5 (by decide)) rfl rfl rfl ha rfl rfl ?_
          refine tn_aload_n dX9_next_105 rfl 0 rfl ?_
          refine tn_aload_n dX9_next_106 rfl 0 rfl ?_
          refine tn_getR (ci := 9) (i := 2) (n := 83) (x := xq16) dX9_next_107 rfl lay_9 (by decide) fl9_18 ha rfl rfl (rc_o (by decide) (rc_o (by decide) (rc_o (by decide) (hx17)))) ?_
          refine tn_aload_n dX9_next_110 rfl 0 rfl ?_
          refine tn_getI (ci := 9) (i := 3) (n := 84) (t := (σ.2.1 84 a) + 1) dX9_next_111 rfl lay_9 (by decide) fl9_45 ha rfl rfl (rc_o (by decide) (rc_o (by decide) (ra_eq))) ?_
          refine tn_ialdX (z := (σ.2.1 84 a) + 1) (((hw.put (by decide) (by decide) (fo_84 (by omega))).put (by decide) (by decide) (fo_85 (by omega))).put (by decide) (by decide) (fo_86 (by omega))) dX9_next_114 hk18i (by omega) (by omega) (by omega) (fun v28 g29q g29 g29k => ?_)
          have g29Q : v28 = σ.2.1 (1000 + xq16) ((σ.2.1 84 a) + 1) := by rw [g29q, sA_k (by omega), sA_k (by omega), sA_k (by omega)]
          clear g29k g29q
          refine tn_putV (ci := 9) (i := 6) (n := 87) (r := false) (v := v28) tyX9 tyX9_ok nmX9 dX9_next_115 rfl lay_9 (by decide) fl9_34 rfl (tyX9_ok 6 (by decide)) rfl rfl rfl ha rfl rfl ?_
          have q30 : (sA 87 a (v28) (sA 86 a (v26) (sA 85 a (v24) (sA 84 a ((σ.2.1 84 a) + 1) σ)))).2.1 84 a = (σ.2.1 84 a) + 1 := rc_o (by decide) (rc_o (by decide) (rc_o (by decide) (ra_eq)))
          have q31 : (sA 87 a (v28) (sA 86 a (v26) (sA 85 a (v24) (sA 84 a ((σ.2.1 84 a) + 1) σ)))).2.1 85 a = v24 := rc_o (by decide) (rc_o (by decide) (ra_eq))
          have q32 : (sA 87 a (v28) (sA 86 a (v26) (sA 85 a (v24) (sA 84 a ((σ.2.1 84 a) + 1) σ)))).2.1 84 a = (σ.2.1 84 a) + 1 := rc_o (by decide) (rc_o (by decide) (rc_o (by decide) (ra_eq)))
          have q33 : (sA 87 a (v28) (sA 86 a (v26) (sA 85 a (v24) (sA 84 a ((σ.2.1 84 a) + 1) σ)))).2.1 85 a = v24 := rc_o (by decide) (rc_o (by decide) (ra_eq))
          have q34 : (sA 87 a (v28) (sA 86 a (v26) (sA 85 a (v24) (sA 84 a ((σ.2.1 84 a) + 1) σ)))).2.1 86 a = v26 := rc_o (by decide) (ra_eq)
          have q35 : (sA 87 a (v28) (sA 86 a (v26) (sA 85 a (v24) (sA 84 a ((σ.2.1 84 a) + 1) σ)))).2.1 87 a = v28 := ra_eq
          have w36 := hr xq2 xq9 xq16 hx3 hx10 hx17 0 (Nat.zero_le _)
          have w36i : σ.2.1 84 a + 1 = ((0 : Nat) : Int) := by omega
          rw [w36i] at g25Q
          rw [w36i] at g27Q
          rw [w36i] at g29Q
          exact tn_vret rfl dX9_next_118 ⟨rfl, rfl, ((((hw.put (by decide) (by decide) (fo_84 (by omega))).put (by decide) (by decide) (fo_85 (by omega))).put (by decide) (by decide) (fo_86 (by omega))).put (by decide) (by decide) (fo_87 (by omega))), ((((FrC.rfl.put (by decide) (by decide)).put (by decide) (by decide)).put (by decide) (by decide)).put (by decide) (by decide)), by unfold TKI at *; rw [q30, q31]; omega, by rw [q30]; omega, by unfold ADV TKI at *; rw [q30]; omega, ⟨⟨Nat.zero_le _, hn, by rw [q32]; omega⟩, ⟨by rw [q33, g25Q]; exact w36.1, by rw [q34, g27Q]; exact w36.2.1, by rw [q35, g29Q]; exact w36.2.2⟩, ((((hr).pt (by decide)).pt (by decide)).pt (by decide)).pt (by decide), he⟩, (TRT.pt (TRT.pt (TRT.pt (TRT.pt TRT.rfl (by decide)) (by decide)) (by decide)) (by decide))⟩
        · refine tn_aload_n dX9_next_49 rfl 0 rfl ?_
          refine tn_getI (ci := 9) (i := 4) (n := 85) (t := σ.2.1 85 a) dX9_next_50 rfl lay_9 (by decide) fl9_30 ha rfl rfl (rfl) ?_
          have g37 : ((-2147483648 : Int) ≤ σ.2.1 85 a ∧ σ.2.1 85 a ≤ 2147483647) := wf_85 hw ha
          refine tn_sipush dX9_next_53 (by decide) ?_
          refine tn_icmp_eq (tgt := 118) dX9_next_56 (by decide) ⟨by omega, by omega⟩ ⟨by decide, by decide⟩ (fun h38 => ?_) (fun h38 => ?_)
          · have q39 : σ.2.1 84 a = σ.2.1 84 a := rfl
            have q40 : σ.2.1 85 a = σ.2.1 85 a := rfl
            exact tn_vret rfl dX9_next_118 ⟨rfl, rfl, hw, FrC.rfl, False.elim (by omega), False.elim (by omega), False.elim (by omega), False.elim (by omega), False.elim (by omega)⟩
          · refine tn_aload_n dX9_next_59 rfl 0 rfl ?_
            refine tn_getI (ci := 9) (i := 4) (n := 85) (t := σ.2.1 85 a) dX9_next_60 rfl lay_9 (by decide) fl9_30 ha rfl rfl (rfl) ?_
            refine tn_sipush dX9_next_63 (by decide) ?_
            refine tn_icmp_eq (tgt := 118) dX9_next_66 (by decide) ⟨by omega, by omega⟩ ⟨by decide, by decide⟩ (fun h41 => ?_) (fun h41 => ?_)
            · have q42 : σ.2.1 84 a = σ.2.1 84 a := rfl
              have q43 : σ.2.1 85 a = σ.2.1 85 a := rfl
              exact tn_vret rfl dX9_next_118 ⟨rfl, rfl, hw, FrC.rfl, False.elim (by omega), False.elim (by omega), False.elim (by omega), False.elim (by omega), False.elim (by omega)⟩
            · refine tn_aload_n dX9_next_69 rfl 0 rfl ?_
              refine tn_dup dX9_next_70 rfl ?_
              refine tn_getI (ci := 9) (i := 3) (n := 84) (t := σ.2.1 84 a) dX9_next_71 rfl lay_9 (by decide) fl9_45 ha rfl rfl (rfl) ?_
              refine tn_iconst dX9_next_74 ?_
              refine tn_iadd dX9_next_75 ?_
              refine tn_putV (ci := 9) (i := 3) (n := 84) (r := false) (v := (σ.2.1 84 a) + 1) tyX9 tyX9_ok nmX9 dX9_next_76 rfl lay_9 (by decide) fl9_45 rfl (tyX9_ok 3 (by decide)) rfl rfl rfl ha rfl rfl ?_
              refine tn_aload_n dX9_next_79 rfl 0 rfl ?_
              refine tn_aload_n dX9_next_80 rfl 0 rfl ?_
              refine tn_getR (ci := 9) (i := 0) (n := 81) (x := xq2) dX9_next_81 rfl lay_9 (by decide) fl9_9 ha rfl rfl (rc_o (by decide) (hx3)) ?_
              refine tn_aload_n dX9_next_84 rfl 0 rfl ?_
              refine tn_getI (ci := 9) (i := 3) (n := 84) (t := (σ.2.1 84 a) + 1) dX9_next_85 rfl lay_9 (by decide) fl9_45 ha rfl rfl (ra_eq) ?_
              refine tn_ialdX (z := (σ.2.1 84 a) + 1) (hw.put (by decide) (by decide) (fo_84 (by omega))) dX9_next_88 hk4i (by omega) (by omega) (by omega) (fun v44 g45q g45 g45k => ?_)
              have g45u := g45k.2.2.1 hk4
              have g45Q : v44 = σ.2.1 (1000 + xq2) ((σ.2.1 84 a) + 1) := by rw [g45q, sA_k (by omega)]
              clear g45k g45q
              refine tn_putV (ci := 9) (i := 4) (n := 85) (r := false) (v := v44) tyX9 tyX9_ok nmX9 dX9_next_89 rfl lay_9 (by decide) fl9_30 rfl (tyX9_ok 4 (by decide)) rfl rfl rfl ha rfl rfl ?_
              refine tn_aload_n dX9_next_92 rfl 0 rfl ?_
              refine tn_aload_n dX9_next_93 rfl 0 rfl ?_
              refine tn_getR (ci := 9) (i := 1) (n := 82) (x := xq9) dX9_next_94 rfl lay_9 (by decide) fl9_15 ha rfl rfl (rc_o (by decide) (rc_o (by decide) (hx10))) ?_
              refine tn_aload_n dX9_next_97 rfl 0 rfl ?_
              refine tn_getI (ci := 9) (i := 3) (n := 84) (t := (σ.2.1 84 a) + 1) dX9_next_98 rfl lay_9 (by decide) fl9_45 ha rfl rfl (rc_o (by decide) (ra_eq)) ?_
              refine tn_ialdX (z := (σ.2.1 84 a) + 1) ((hw.put (by decide) (by decide) (fo_84 (by omega))).put (by decide) (by decide) (fo_85 (by omega))) dX9_next_101 hk11i (by omega) (by omega) (by omega) (fun v46 g47q g47 g47k => ?_)
              have g47Q : v46 = σ.2.1 (1000 + xq9) ((σ.2.1 84 a) + 1) := by rw [g47q, sA_k (by omega), sA_k (by omega)]
              clear g47k g47q
              refine tn_putV (ci := 9) (i := 5) (n := 86) (r := false) (v := v46) tyX9 tyX9_ok nmX9 dX9_next_102 rfl lay_9 (by decide) fl9_55 rfl (tyX9_ok 5 (by decide)) rfl rfl rfl ha rfl rfl ?_
              refine tn_aload_n dX9_next_105 rfl 0 rfl ?_
              refine tn_aload_n dX9_next_106 rfl 0 rfl ?_
              refine tn_getR (ci := 9) (i := 2) (n := 83) (x := xq16) dX9_next_107 rfl lay_9 (by decide) fl9_18 ha rfl rfl (rc_o (by decide) (rc_o (by decide) (rc_o (by decide) (hx17)))) ?_
              refine tn_aload_n dX9_next_110 rfl 0 rfl ?_
              refine tn_getI (ci := 9) (i := 3) (n := 84) (t := (σ.2.1 84 a) + 1) dX9_next_111 rfl lay_9 (by decide) fl9_45 ha rfl rfl (rc_o (by decide) (rc_o (by decide) (ra_eq))) ?_
              refine tn_ialdX (z := (σ.2.1 84 a) + 1) (((hw.put (by decide) (by decide) (fo_84 (by omega))).put (by decide) (by decide) (fo_85 (by omega))).put (by decide) (by decide) (fo_86 (by omega))) dX9_next_114 hk18i (by omega) (by omega) (by omega) (fun v48 g49q g49 g49k => ?_)
              have g49Q : v48 = σ.2.1 (1000 + xq16) ((σ.2.1 84 a) + 1) := by rw [g49q, sA_k (by omega), sA_k (by omega), sA_k (by omega)]
              clear g49k g49q
              refine tn_putV (ci := 9) (i := 6) (n := 87) (r := false) (v := v48) tyX9 tyX9_ok nmX9 dX9_next_115 rfl lay_9 (by decide) fl9_34 rfl (tyX9_ok 6 (by decide)) rfl rfl rfl ha rfl rfl ?_
              have q50 : (sA 87 a (v48) (sA 86 a (v46) (sA 85 a (v44) (sA 84 a ((σ.2.1 84 a) + 1) σ)))).2.1 84 a = (σ.2.1 84 a) + 1 := rc_o (by decide) (rc_o (by decide) (rc_o (by decide) (ra_eq)))
              have q51 : (sA 87 a (v48) (sA 86 a (v46) (sA 85 a (v44) (sA 84 a ((σ.2.1 84 a) + 1) σ)))).2.1 85 a = v44 := rc_o (by decide) (rc_o (by decide) (ra_eq))
              have q52 : (sA 87 a (v48) (sA 86 a (v46) (sA 85 a (v44) (sA 84 a ((σ.2.1 84 a) + 1) σ)))).2.1 84 a = (σ.2.1 84 a) + 1 := rc_o (by decide) (rc_o (by decide) (rc_o (by decide) (ra_eq)))
              have q53 : (sA 87 a (v48) (sA 86 a (v46) (sA 85 a (v44) (sA 84 a ((σ.2.1 84 a) + 1) σ)))).2.1 85 a = v44 := rc_o (by decide) (rc_o (by decide) (ra_eq))
              have q54 : (sA 87 a (v48) (sA 86 a (v46) (sA 85 a (v44) (sA 84 a ((σ.2.1 84 a) + 1) σ)))).2.1 86 a = v46 := rc_o (by decide) (ra_eq)
              have q55 : (sA 87 a (v48) (sA 86 a (v46) (sA 85 a (v44) (sA 84 a ((σ.2.1 84 a) + 1) σ)))).2.1 87 a = v48 := ra_eq
              have w56 := hr xq2 xq9 xq16 hx3 hx10 hx17 0 (Nat.zero_le _)
              have w56i : σ.2.1 84 a + 1 = ((0 : Nat) : Int) := by omega
              rw [w56i] at g45Q
              rw [w56i] at g47Q
              rw [w56i] at g49Q
              exact tn_vret rfl dX9_next_118 ⟨rfl, rfl, ((((hw.put (by decide) (by decide) (fo_84 (by omega))).put (by decide) (by decide) (fo_85 (by omega))).put (by decide) (by decide) (fo_86 (by omega))).put (by decide) (by decide) (fo_87 (by omega))), ((((FrC.rfl.put (by decide) (by decide)).put (by decide) (by decide)).put (by decide) (by decide)).put (by decide) (by decide)), by unfold TKI at *; rw [q50, q51]; omega, by rw [q50]; omega, by unfold ADV TKI at *; rw [q50]; omega, ⟨⟨Nat.zero_le _, hn, by rw [q52]; omega⟩, ⟨by rw [q53, g45Q]; exact w56.1, by rw [q54, g47Q]; exact w56.2.1, by rw [q55, g49Q]; exact w56.2.2⟩, ((((hr).pt (by decide)).pt (by decide)).pt (by decide)).pt (by decide), he⟩, (TRT.pt (TRT.pt (TRT.pt (TRT.pt TRT.rfl (by decide)) (by decide)) (by decide)) (by decide))⟩
end
section
set_option maxHeartbeats 1000000 in
set_option maxRecDepth 20000 in
theorem l_X9_scan_fw_24 (d : Nat) {T : CT} {σ0 : MS} {a : Nat} {rx1 : Nat} {c3 : Int} {fT : Int → Int} {Sx : Int → Int} {post : Option Value → CT → MS → Prop} (h_a : OB T a 9) (h_rx1 : (T rx1).1 = 2) (l_rx1 : (T rx1).2 ≤ 1000000) (r_c3 : 0 ≤ c3 ∧ c3 ≤ 1200) (hw0 : WT T σ0) (ht : (T rx1).2 = 1200) (hB : BYT fT) (hSx : Sx = svC fT c3) (hx_92 : ∀ (i4 : Int) (i5 : Int) (σ : MS) , (WT T σ) → (FrC T [85, 86, 87, 512, 522, 523] σ0 σ) → (0 ≤ i4 ∧ i4 ≤ 1200) → (0 ≤ i5 ∧ i5 ≤ 1200) → (i4 ≤ i5 ∧ i5 ≤ c3) → (SCI σ a Sx (i4) (i5)) → (RWE σ rx1 fT c3) → (TRT T σ0 σ) → (σ.2.1 85 a ≠ 263 → i5 = c3) → Tn (d + 3) m_X9_scan 92 T σ [(0, .ref a), (1, .ref rx1), (3, .int (iI c3)), (4, .int (iI i4)), (5, .int (iI i5))] [] post) : ∀ (n : Nat) (i4 : Int) (i5 : Int) (σ : MS) , (WT T σ) → (FrC T [85, 86, 87, 512, 522, 523] σ0 σ) → (0 ≤ i4 ∧ i4 ≤ 1200) → (0 ≤ i5 ∧ i5 ≤ 1200) → (i4 ≤ i5 ∧ i5 ≤ c3) → (SCI σ a Sx (i4) (i5)) → (RWE σ rx1 fT c3) → (TRT T σ0 σ) → (2000 - i5).toNat = n → Tn (d + 3) m_X9_scan 24 T σ [(0, .ref a), (1, .ref rx1), (3, .int (iI c3)), (4, .int (iI i4)), (5, .int (iI i5))] [] post := by
  intro n
  induction n using Nat.strongRecOn with
  | _ n ih =>
    intro i4 i5 σ hw hF r_i4 r_i5 h0 hsc hrow htr hm
    refine tn_iload dX9_scan_24 4 rfl ?_
    refine tn_iload_n dX9_scan_26 rfl 2 rfl ?_
    refine tn_icmp_ge (tgt := 92) dX9_scan_27 (by decide) ⟨by omega, by omega⟩ ⟨by omega, by omega⟩ (fun h1 => ?_) (fun h1 => ?_)
    · exact tn_sub [0, 1, 2, 3, 4] rfl (hx_92 (i4) (i5) σ hw (FrC.rfl.trans (FrC.sub hF (by decide))) (by omega) (by omega) (by omega) hsc hrow htr (fun q => by omega))
    · refine tn_aload_n dX9_scan_30 rfl 0 rfl ?_
      refine tn_getI (ci := 9) (i := 4) (n := 85) (t := σ.2.1 85 a) dX9_scan_31 rfl lay_9 (by decide) fl9_30 h_a rfl rfl (rfl) ?_
      have g2 : ((-2147483648 : Int) ≤ σ.2.1 85 a ∧ σ.2.1 85 a ≤ 2147483647) := wf_85 hw h_a
      refine tn_sipush dX9_scan_34 (by decide) ?_
      refine tn_icmp_eq (tgt := 92) dX9_scan_37 (by decide) ⟨by omega, by omega⟩ ⟨by decide, by decide⟩ (fun h3 => ?_) (fun h3 => ?_)
      · exact tn_sub [0, 1, 2, 3, 4] rfl (hx_92 (i4) (i5) σ hw (FrC.rfl.trans (FrC.sub hF (by decide))) (by omega) (by omega) (by omega) hsc hrow htr (fun q => by omega))
      · refine tn_aload_n dX9_scan_40 rfl 1 rfl ?_
        refine tn_iload dX9_scan_41 4 rfl ?_
        have g4 := hB (i5)
        refine tn_bald (z := i5) (v := fT (i5)) dX9_scan_43 h_rx1 (by omega) (by omega) (by omega) (hrow (i5) (by omega) (by omega)) ?_
        refine tn_bipush dX9_scan_44 (by decide) ?_
        refine tn_icmp_eq (tgt := 58) dX9_scan_46 (by decide) ⟨by omega, by omega⟩ ⟨by decide, by decide⟩ (fun h5 => ?_) (fun h5 => ?_)
        · refine tn_iinc (q0 := 4) (L' := [(5, .int (iI (i5 + 1))), (0, .ref a), (1, .ref rx1), (3, .int (iI c3)), (4, .int (iI i4))]) dX9_scan_58 rfl (by decide) rfl ?_
          refine tn_goto (tgt := 24) dX9_scan_61 (by decide) ?_
          exact tn_sub [1, 2, 3, 4, 0] rfl (ih _ (by omega) (i4) (i5 + 1) σ hw (FrC.rfl.trans (FrC.sub hF (by decide))) (by omega) (by omega) (by omega) (SCI.bl hsc (by omega) (by have e9 := is_byte hSx (k := i5) (by omega) (by omega); omega) (by omega)) hrow htr rfl)
        · refine tn_aload_n dX9_scan_49 rfl 1 rfl ?_
          refine tn_iload dX9_scan_50 4 rfl ?_
          have g6 := hB (i5)
          refine tn_bald (z := i5) (v := fT (i5)) dX9_scan_52 h_rx1 (by omega) (by omega) (by omega) (hrow (i5) (by omega) (by omega)) ?_
          refine tn_bipush dX9_scan_53 (by decide) ?_
          refine tn_icmp_ne (tgt := 64) dX9_scan_55 (by decide) ⟨by omega, by omega⟩ ⟨by decide, by decide⟩ (fun h7 => ?_) (fun h7 => ?_)
          · refine tn_aload_n dX9_scan_64 rfl 0 rfl ?_
            refine tn_iload dX9_scan_65 4 rfl ?_
            refine tn_putV (ci := 9) (i := 6) (n := 87) (r := false) (v := i5) tyX9 tyX9_ok nmX9 dX9_scan_67 rfl lay_9 (by decide) fl9_34 rfl (tyX9_ok 6 (by decide)) rfl rfl rfl h_a rfl rfl ?_
            refine tn_aload_n dX9_scan_70 rfl 0 rfl ?_
            refine tn_aload_n dX9_scan_71 rfl 1 rfl ?_
            refine tn_iload_n dX9_scan_72 rfl 2 rfl ?_
            refine tn_iload dX9_scan_73 4 rfl ?_
            refine tn_callV (M := m_X9_scan) (pc := 75) (ix := 37) (ci := 9) (M' := m_X9_scanOne) (As := [.ref rx1, .int (iI c3), .int (iI i5)]) (rest := []) dX9_scan_75 ok_X9_scanOne im_X9_scanOne se_X9_scanOne ml9_37 np_X9_scanOne rfl rfl h_a rfl (Nat.le_of_ble_eq_true rfl) (Nat.le_of_ble_eq_true rfl) rfl (k_X9_scanOne_fw (d) (T := T) (σ := (sA 87 a (i5) σ)) (a := a) (t := rx1) (l := c3) (i := i5) h_a h_rx1 (by omega) (by omega) (by omega) (hw.put (by decide) (by decide) (fo_87 (by omega))) (by omega) ht (RWE.cg hrow (sA_k (by omega))) hB hSx) (fun r8 T10 σ9 gt11 hp => ?_)
            obtain ⟨v16, rfl, rfl, w17, F18, f12, f13, f14, f15⟩ := hp
            clear gt11
            show Tn _ _ 78 T σ9 [(0, .ref a), (1, .ref rx1), (3, .int (iI c3)), (4, .int (iI i4)), (5, .int (iI i5))] [.int (iI v16)] _
            refine tn_istore (L' := [(5, .int (iI v16)), (0, .ref a), (1, .ref rx1), (3, .int (iI c3)), (4, .int (iI i4))]) dX9_scan_78 (by decide) rfl ?_
            refine tn_aload_n dX9_scan_80 rfl 1 rfl ?_
            refine tn_iload dX9_scan_81 4 rfl ?_
            have q23 : σ9.2.1 87 a = i5 := rc_F F18 (Or.inl (by decide)) (by decide) (ra_eq)
            refine tn_callV (M := m_X9_scan) (pc := 83) (ix := 41) (ci := 9) (M' := m_X9_keep) (As := [.int (iI i4)]) (rest := []) dX9_scan_83 ok_X9_keep im_X9_keep se_X9_keep ml9_41 np_X9_keep rfl rfl h_a rfl (Nat.le_of_ble_eq_true rfl) (Nat.le_of_ble_eq_true rfl) rfl (k_X9_keep_fw (d) (T := T) (σ := σ9) (a := a) (n := i4) h_a (by omega) w17 (by omega) (by omega)) (fun r19 T21 σ20 gt22 hp => ?_)
            obtain ⟨rfl, rfl, w27, F28, f24, f25⟩ := hp
            clear gt22
            show Tn _ _ 86 T σ20 [(5, .int (iI v16)), (0, .ref a), (1, .ref rx1), (3, .int (iI c3)), (4, .int (iI i4))] [] _
            refine tn_iinc (q0 := 4) (L' := [(4, .int (iI (i4 + 1))), (5, .int (iI v16)), (0, .ref a), (1, .ref rx1), (3, .int (iI c3))]) dX9_scan_86 rfl (by decide) rfl ?_
            refine tn_goto (tgt := 24) dX9_scan_89 (by decide) ?_
            have w29F : FrC T [85, 86, 87] σ σ9 := ((FrC.rfl.put (by decide) (by decide)).trans (FrC.sub F18 (by decide)))
            have w29r := rowsT hw h_a w29F (by decide) (by decide) (by decide)
            have w2981 : σ9.2.1 81 = σ.2.1 81 := w29F.1 81 (Or.inl (by decide)) (by decide)
            have w2982 : σ9.2.1 82 = σ.2.1 82 := w29F.1 82 (Or.inl (by decide)) (by decide)
            have w2983 : σ9.2.1 83 = σ.2.1 83 := w29F.1 83 (Or.inl (by decide)) (by decide)
            have w29k : KPQ σ σ20 a (i4) (σ9.2.1 85 a) (σ9.2.1 86 a) (i5) := ⟨fun k hk i => by rw [f24.1 k (by rw [w2981]; exact hk) i, w29r k (Or.inl hk)], fun k hk i => by rw [f24.2.1 k (by rw [w2982]; exact hk) i, w29r k (Or.inr (Or.inl hk))], fun k hk i => by rw [f24.2.2 k (by rw [w2983]; exact hk) i, w29r k (Or.inr (Or.inr hk)), show σ9.2.1 87 a = i5 from rc_F F18 (Or.inl (by decide)) (by decide) (ra_eq)]⟩
            have w29f : ∀ k ∈ [81, 82, 83], σ20.2.1 k = σ.2.1 k := fun k hk => (F28.1 k (Or.inl ((by decide : ∀ k ∈ [81, 82, 83], k < 200) k hk)) ((by decide : ∀ k ∈ [81, 82, 83], k ∉ [512, 522, 523]) k hk)).trans (w29F.1 k (Or.inl ((by decide : ∀ k ∈ [81, 82, 83], k < 200) k hk)) ((by decide : ∀ k ∈ [81, 82, 83], k ∉ [85, 86, 87]) k hk))
            exact tn_sub [2, 3, 4, 0, 1] rfl (ih _ (by omega) (i4 + 1) (v16) σ20 w27 ((((FrC.rfl.trans (FrC.sub hF (by decide))).put (by decide) (by decide)).trans (FrC.sub F18 (by decide))).trans (FrC.sub F28 (by decide))) (by omega) (by omega) (by omega) (SCI.tk hsc (by rw [hSx]; exact svC_sb hB) (by rw [hSx]; exact svC_sen (by omega)) (by omega) (by omega) (not_blk hSx hB (by omega) (by omega) (by omega)) (in_byte hSx hB (by omega)) f14 w29f w29k (F28.1 85 (Or.inl (by decide)) (by decide) ▸ rfl)) (RWE.cg (RWE.cg (RWE.cg hrow (sA_k (by omega))) (F18.2 rx1 (by rw [h_rx1]; unfold HT; omega) (by rw [h_rx1]; decide))) (F28.2 rx1 (by rw [h_rx1]; unfold HT; omega) (by rw [h_rx1]; decide))) (TRT.trans (TRT.trans (TRT.pt htr (by decide)) f15) f25) rfl)
          · refine tn_iinc (q0 := 4) (L' := [(5, .int (iI (i5 + 1))), (0, .ref a), (1, .ref rx1), (3, .int (iI c3)), (4, .int (iI i4))]) dX9_scan_58 rfl (by decide) rfl ?_
            refine tn_goto (tgt := 24) dX9_scan_61 (by decide) ?_
            exact tn_sub [1, 2, 3, 4, 0] rfl (ih _ (by omega) (i4) (i5 + 1) σ hw (FrC.rfl.trans (FrC.sub hF (by decide))) (by omega) (by omega) (by omega) (SCI.bl hsc (by omega) (by have e9 := is_byte hSx (k := i5) (by omega) (by omega); omega) (by omega)) hrow htr rfl)
set_option maxHeartbeats 1000000 in
set_option maxRecDepth 20000 in
theorem k_X9_scan_fw (d : Nat) {T : CT} {σ : MS} {a : Nat} {t : Nat} {n : Int} {fT Sx : Int → Int} (ha : OB T a 9) (h_t : (T t).1 = 2) (l_t : (T t).2 ≤ 1000000) (h_n : -2147483648 ≤ n ∧ n ≤ 2147483647) (hw : WT T σ) (ht : (T t).2 = 1200) (hn : 0 ≤ n ∧ n ≤ 1200) (hfT : RWE σ t fT n) (hB : BYT fT) (hSx : Sx = svC fT n) : Tn (d + 3) m_X9_scan 0 T σ [(0, .ref a), (1, .ref t), (2, .int (iI n))] [] (fun ro T2 σ2 => ro = none ∧ T = T2 ∧ WT T2 σ2 ∧ FrC T [84, 85, 86, 87, 512, 522, 523] σ σ2 ∧ (TKI σ2 a) ∧ (∃ m : Nat, TKT σ2 a Sx m 0) ∧ (TRT T σ σ2)) := by
  have hrow := hfT
  refine tn_iconst dX9_scan_0 ?_
  refine tn_iload_n dX9_scan_1 rfl 2 rfl ?_
  refine tn_aload_n dX9_scan_2 rfl 1 rfl ?_
  refine tn_alenX dX9_scan_3 (Or.inr (Or.inl h_t)) ?_
  refine tn_mmin (x := n) (y := ((T t).2 : Int)) dX9_scan_4 mlm9_21 stM_min iniM cdM_min (by omega) (Nat.le_of_ble_eq_true rfl) ⟨by omega, by omega⟩ ⟨by omega, by omega⟩ (fun z1 g2 => ?_)
  refine tn_mmax (x := 0) (y := z1) dX9_scan_7 mlm9_27 stM_max iniM cdM_max (by omega) (Nat.le_of_ble_eq_true rfl) ⟨by omega, by omega⟩ ⟨by omega, by omega⟩ (fun z3 g4 => ?_)
  refine tn_istore_n (L' := [(3, .int (iI z3)), (0, .ref a), (1, .ref t), (2, .int (iI n))]) dX9_scan_10 rfl (by decide) rfl ?_
  refine tn_iconst dX9_scan_11 ?_
  refine tn_istore (L' := [(4, .int (iI 0)), (3, .int (iI z3)), (0, .ref a), (1, .ref t), (2, .int (iI n))]) dX9_scan_12 (by decide) rfl ?_
  refine tn_iconst dX9_scan_14 ?_
  refine tn_istore (L' := [(5, .int (iI 0)), (4, .int (iI 0)), (3, .int (iI z3)), (0, .ref a), (1, .ref t), (2, .int (iI n))]) dX9_scan_15 (by decide) rfl ?_
  refine tn_aload_n dX9_scan_17 rfl 3 rfl ?_
  refine tn_sipush dX9_scan_18 (by decide) ?_
  refine tn_putV (ci := 9) (i := 4) (n := 85) (r := false) (v := 264) tyX9 tyX9_ok nmX9 dX9_scan_21 rfl lay_9 (by decide) fl9_30 rfl (tyX9_ok 4 (by decide)) rfl rfl rfl ha rfl rfl ?_
  have q5 : (sA 85 a (264) σ).2.1 85 a = 264 := ra_eq
  refine tn_sub [3, 4, 2, 1, 0] rfl (l_X9_scan_fw_24 (d) (T := T) (σ0 := (sA 85 a (264) σ)) (a := a) (rx1 := t) (c3 := z3) (fT := fT) (Sx := Sx) ha h_t (by omega) (by omega) (hw.put (by decide) (by decide) (fo_85 (by omega))) ht hB (by rw [show z3 = n by omega]; exact hSx) (fun i46 i57 σ8 w11 F12 r13 r14 f15 f16 f17 f18 f19 => ?_) _ (0) (0) (sA 85 a (264) σ) (hw.put (by decide) (by decide) (fo_85 (by omega))) FrC.rfl (by omega) (by omega) (by omega) ⟨fun _ _ _ _ _ _ i hi => absurd hi (by omega), Or.inl ⟨by rw [q5]; omega, rfl, fun j hj => absurd hj (by omega)⟩⟩ (by rw [show z3 = n by omega]; exact (RWE.cg hrow (sA_k (by omega)))) TRT.rfl rfl)
  show Tn _ _ 92 T σ8 [(0, .ref a), (1, .ref t), (3, .int (iI z3)), (4, .int (iI i46)), (5, .int (iI i57))] [] _
  refine tn_aload_n dX9_scan_92 rfl 0 rfl ?_
  refine tn_getI (ci := 9) (i := 4) (n := 85) (t := σ8.2.1 85 a) dX9_scan_93 rfl lay_9 (by decide) fl9_30 ha rfl rfl (rfl) ?_
  have g20 : ((-2147483648 : Int) ≤ σ8.2.1 85 a ∧ σ8.2.1 85 a ≤ 2147483647) := wf_85 w11 ha
  refine tn_sipush dX9_scan_96 (by decide) ?_
  refine tn_icmp_eq (tgt := 120) dX9_scan_99 (by decide) ⟨by omega, by omega⟩ ⟨by decide, by decide⟩ (fun h21 => ?_) (fun h21 => ?_)
  · refine tn_aload_n dX9_scan_120 rfl 0 rfl ?_
    refine tn_iconst dX9_scan_121 ?_
    refine tn_putV (ci := 9) (i := 3) (n := 84) (r := false) (v := -1) tyX9 tyX9_ok nmX9 dX9_scan_122 rfl lay_9 (by decide) fl9_45 rfl (tyX9_ok 3 (by decide)) rfl rfl rfl ha rfl rfl ?_
    refine tn_aload_n dX9_scan_125 rfl 0 rfl ?_
    have w22 := SCI.bd f16 (by omega)
    have w22t : TRW (sA 84 a (-1) σ8) a Sx (i46 - 1).toNat := w22.2.1.pt (by decide)
    have q23 : (sA 84 a (-1) σ8).2.1 84 a = -1 := ra_eq
    have q28 : (sA 84 a (-1) σ8).2.1 84 a = -1 := ra_eq
    refine tn_callV (M := m_X9_scan) (pc := 126) (ix := 48) (ci := 9) (M' := m_X9_next) (As := []) (rest := []) dX9_scan_126 ok_X9_next im_X9_next se_X9_next ml9_48 np_X9_next rfl rfl ha rfl (Nat.le_of_ble_eq_true rfl) (Nat.le_of_ble_eq_true rfl) rfl (k_X9_next_f0w (d + 1) (T := T) (σ := (sA 84 a (-1) σ8)) (a := a) ha (w11.put (by decide) (by decide) (fo_84 (by omega))) (fun q => absurd (q.symm.trans (ra_eq)) (by decide)) q23 w22t w22.2.2 (by omega)) (fun r24 T26 σ25 gt27 hp => ?_)
    obtain ⟨rfl, rfl, w35, F36, f29, f30, f31, f32, f33⟩ := hp
    clear gt27
    show Tn _ _ 129 T σ25 [(0, .ref a), (1, .ref t), (3, .int (iI z3)), (4, .int (iI i46)), (5, .int (iI i57))] [] _
    exact tn_vret rfl dX9_scan_129 ⟨rfl, rfl, w35, ((((FrC.rfl.put (by decide) (by decide)).trans (FrC.sub F12 (by decide))).put (by decide) (by decide)).trans (FrC.sub F36 (by decide))), f29, ⟨_, f32⟩, (TRT.trans (TRT.pt (TRT.trans (TRT.pt TRT.rfl (by decide)) f18) (by decide)) f33)⟩
  · refine tn_aload_n dX9_scan_102 rfl 0 rfl ?_
    refine tn_sipush dX9_scan_103 (by decide) ?_
    refine tn_putV (ci := 9) (i := 4) (n := 85) (r := false) (v := 264) tyX9 tyX9_ok nmX9 dX9_scan_106 rfl lay_9 (by decide) fl9_30 rfl (tyX9_ok 4 (by decide)) rfl rfl rfl ha rfl rfl ?_
    refine tn_aload_n dX9_scan_109 rfl 0 rfl ?_
    refine tn_iload_n dX9_scan_110 rfl 2 rfl ?_
    refine tn_putV (ci := 9) (i := 6) (n := 87) (r := false) (v := z3) tyX9 tyX9_ok nmX9 dX9_scan_111 rfl lay_9 (by decide) fl9_34 rfl (tyX9_ok 6 (by decide)) rfl rfl rfl ha rfl rfl ?_
    refine tn_aload_n dX9_scan_114 rfl 0 rfl ?_
    refine tn_iload dX9_scan_115 3 rfl ?_
    have q41 : (sA 87 a (z3) (sA 85 a (264) σ8)).2.1 85 a = 264 := rc_o (by decide) (ra_eq)
    have q42 : (sA 87 a (z3) (sA 85 a (264) σ8)).2.1 86 a = σ8.2.1 86 a := rc_o (by decide) (rc_o (by decide) (rfl))
    have q43 : (sA 87 a (z3) (sA 85 a (264) σ8)).2.1 87 a = z3 := ra_eq
    refine tn_callV (M := m_X9_scan) (pc := 117) (ix := 41) (ci := 9) (M' := m_X9_keep) (As := [.int (iI i46)]) (rest := []) dX9_scan_117 ok_X9_keep im_X9_keep se_X9_keep ml9_41 np_X9_keep rfl rfl ha rfl (Nat.le_of_ble_eq_true rfl) (Nat.le_of_ble_eq_true rfl) rfl (k_X9_keep_fw (d) (T := T) (σ := (sA 87 a (z3) (sA 85 a (264) σ8))) (a := a) (n := i46) ha (by omega) ((w11.put (by decide) (by decide) (fo_85 (by omega))).put (by decide) (by decide) (fo_87 (by omega))) (fun _ => Or.inr (Or.inr (rc_o (by decide) (ra_eq)))) (by omega)) (fun r37 T39 σ38 gt40 hp => ?_)
    obtain ⟨rfl, rfl, w47, F48, f44, f45⟩ := hp
    clear gt40
    show Tn _ _ 120 T σ38 [(0, .ref a), (1, .ref t), (3, .int (iI z3)), (4, .int (iI i46)), (5, .int (iI i57))] [] _
    refine tn_aload_n dX9_scan_120 rfl 0 rfl ?_
    refine tn_iconst dX9_scan_121 ?_
    refine tn_putV (ci := 9) (i := 3) (n := 84) (r := false) (v := -1) tyX9 tyX9_ok nmX9 dX9_scan_122 rfl lay_9 (by decide) fl9_45 rfl (tyX9_ok 3 (by decide)) rfl rfl rfl ha rfl rfl ?_
    refine tn_aload_n dX9_scan_125 rfl 0 rfl ?_
    have w49F : FrC T [85, 87] σ8 (sA 87 a (z3) (sA 85 a (264) σ8)) := ((FrC.rfl.put (by decide) (by decide)).put (by decide) (by decide))
    have w49r := rowsT w11 ha w49F (by decide) (by decide) (by decide)
    have w49k : KPQ σ8 σ38 a (i46) 264 (σ8.2.1 86 a) (z3) := ⟨fun k hk i => by rw [f44.1 k (by rw [w49F.1 81 (Or.inl (by decide)) (by decide)]; exact hk) i, w49r k (Or.inl hk), show (sA 87 a (z3) (sA 85 a (264) σ8)).2.1 85 a = 264 from rc_o (by decide) ra_eq], fun k hk i => by rw [f44.2.1 k (by rw [w49F.1 82 (Or.inl (by decide)) (by decide)]; exact hk) i, w49r k (Or.inr (Or.inl hk))]; rfl, fun k hk i => by rw [f44.2.2 k (by rw [w49F.1 83 (Or.inl (by decide)) (by decide)]; exact hk) i, w49r k (Or.inr (Or.inr hk)), show (sA 87 a (z3) (sA 85 a (264) σ8)).2.1 87 a = z3 from ra_eq]⟩
    have w49f : ∀ k ∈ [81, 82, 83], σ38.2.1 k = σ8.2.1 k := fun k hk => (F48.1 k (Or.inl ((by decide : ∀ k ∈ [81, 82, 83], k < 200) k hk)) ((by decide : ∀ k ∈ [81, 82, 83], k ∉ [512, 522, 523]) k hk)).trans (w49F.1 k (Or.inl ((by decide : ∀ k ∈ [81, 82, 83], k < 200) k hk)) ((by decide : ∀ k ∈ [81, 82, 83], k ∉ [85, 87]) k hk))
    have w49e : i57 = z3 := by omega
    have w49 := SCI.en (by rw [w49e] at f16; exact f16) (by omega) (by omega) (by rw [hSx, svC_out (by omega)]; decide) w49f w49k
    have w49t : TRW (sA 84 a (-1) σ38) a Sx (i46).toNat := w49.1.pt (by decide)
    have q50 : (sA 84 a (-1) σ38).2.1 84 a = -1 := ra_eq
    have q55 : (sA 84 a (-1) σ38).2.1 84 a = -1 := ra_eq
    refine tn_callV (M := m_X9_scan) (pc := 126) (ix := 48) (ci := 9) (M' := m_X9_next) (As := []) (rest := []) dX9_scan_126 ok_X9_next im_X9_next se_X9_next ml9_48 np_X9_next rfl rfl ha rfl (Nat.le_of_ble_eq_true rfl) (Nat.le_of_ble_eq_true rfl) rfl (k_X9_next_f0w (d + 1) (T := T) (σ := (sA 84 a (-1) σ38)) (a := a) ha (w47.put (by decide) (by decide) (fo_84 (by omega))) (fun q => absurd (q.symm.trans (ra_eq)) (by decide)) q50 w49t w49.2 (by omega)) (fun r51 T53 σ52 gt54 hp => ?_)
    obtain ⟨rfl, rfl, w62, F63, f56, f57, f58, f59, f60⟩ := hp
    clear gt54
    show Tn _ _ 129 T σ52 [(0, .ref a), (1, .ref t), (3, .int (iI z3)), (4, .int (iI i46)), (5, .int (iI i57))] [] _
    exact tn_vret rfl dX9_scan_129 ⟨rfl, rfl, w62, (((((((FrC.rfl.put (by decide) (by decide)).trans (FrC.sub F12 (by decide))).put (by decide) (by decide)).put (by decide) (by decide)).trans (FrC.sub F48 (by decide))).put (by decide) (by decide)).trans (FrC.sub F63 (by decide))), f56, ⟨_, f59⟩, (TRT.trans (TRT.pt (TRT.trans (TRT.pt (TRT.pt (TRT.trans (TRT.pt TRT.rfl (by decide)) f18) (by decide)) (by decide)) f45) (by decide)) f60)⟩
end
section
set_option maxHeartbeats 1000000 in
set_option maxRecDepth 20000 in
theorem l_X5_take_m_36 (d : Nat) {T0 : CT} {σ0 : MS} {a : Nat} {Sx : Int → Int} {nx : Nat} {Sj : Nat → Prop} {E : Int → Nat} {nm : Int → Int64 → Int} {z0 : MK} {Tq : CT} {sq : MS} {post : Option Value → CT → MS → Prop} (hw0 : WT T0 σ0) (hx_80 : ∀ (T : CT) (i3 : Int) (σ : MS) , (GT T0 T) → (WT T σ) → (FrC T0 [5, 6, 7, 8, 9, 10, 35, 38, 42, 43, 44, 45, 46, 47, 50, 51, 84, 85, 86, 87, 516, 517, 518, 519, 520, 521] σ0 σ) → (OB T a 5) → (0 ≤ i3 ∧ i3 ≤ 2147483647) → (True) → (True) → (TLF σ a Sx) → (INJ Sj T σ ∧ SPX Sj E T σ a ∧ FRT Sj E Tq sq T σ) → Tn (d + 79) m_X5_take 80 T σ [(0, .ref a), (3, .int (iI i3))] [] post) (hx_94 : ∀ (T : CT) (i3 : Int) (σ : MS) , (GT T0 T) → (WT T σ) → (FrC T0 [5, 6, 7, 8, 9, 10, 35, 38, 42, 43, 44, 45, 46, 47, 50, 51, 84, 85, 86, 87, 516, 517, 518, 519, 520, 521] σ0 σ) → (OB T a 5) → (0 ≤ i3 ∧ i3 ≤ 2147483647) → (True) → (True) → (TLZ Sj E nm z0 Tq sq T σ a Sx nx) → Tn (d + 79) m_X5_take 94 T σ [(0, .ref a), (3, .int (iI i3))] [] post) : ∀ (n : Nat) (T : CT) (i3 : Int) (σ : MS) , (GT T0 T) → (WT T σ) → (FrC T0 [5, 6, 7, 8, 9, 10, 35, 38, 42, 43, 44, 45, 46, 47, 50, 51, 84, 85, 86, 87, 516, 517, 518, 519, 520, 521] σ0 σ) → (OB T a 5) → (0 ≤ i3 ∧ i3 ≤ 2147483647) → (RT σ a) → (TLM Sj E nm z0 Tq sq T σ a Sx nx (5 * (i3))) → (2147483700 - i3).toNat = n → Tn (d + 79) m_X5_take 36 T σ [(0, .ref a), (3, .int (iI i3))] [] post := by
  intro n
  induction n using Nat.strongRecOn with
  | _ n ih =>
    intro T i3 σ hG hw hF h_a r_i3 hrt hx hm
    obtain ⟨hIy, hPy, hFy, jy, ey, Ny, mzy, Pfy, loy, try9, hfy, h5y, hmy, htc⟩ := hx
    have hSb := hfy.sb
    have hjn := RD0.jn hfy hw h_a
    have e38 := hfy.2.1.1.2.2.1
    have e45 := hfy.2.1.1.2.2.2.2
    have b38 := wf_38 hw h_a
    obtain ⟨mx, hmx9⟩ : ∃ z, z = mzy.e35 := ⟨_, rfl⟩
    have haq : OB T a 5 := h_a
    have hwq : WT T σ := hw
    refine tn_iload_n dX5_take_36 rfl 1 rfl ?_
    refine tn_sipush dX5_take_37 (by decide) ?_
    refine tn_icmp_ge (tgt := 94) dX5_take_40 (by decide) ⟨by omega, by omega⟩ ⟨by decide, by decide⟩ (fun h1 => ?_) (fun h1 => ?_)
    · exact tn_sub [0, 1] rfl (hx_94 T (i3) σ hG hw (FrC.rfl.trans (FrC.sub hF (by decide))) h_a (by omega) True.intro True.intro (False.elim (by omega)))
    · refine tn_aload_n dX5_take_43 rfl 0 rfl ?_
      obtain ⟨xq2, hx3, hk4⟩ : ∃ x : Nat, σ.2.1 33 a = (x : Int) ∧ (T x).1 = 39 := wf_33 hw h_a
      have hk4o : OB T xq2 9 := ⟨by omega, by rw [hk4]; rfl, by omega⟩
      refine tn_getR (ci := 5) (i := 0) (n := 33) (x := xq2) dX5_take_44 rfl lay_5 (by decide) fl5_12 h_a rfl rfl (hx3) ?_
      refine tn_getI (ci := 9) (i := 4) (n := 85) (t := σ.2.1 85 xq2) dX5_take_47 rfl lay_9 (by decide) fl5_71 hk4o rfl rfl (rfl) ?_
      have g6 : ((-2147483648 : Int) ≤ σ.2.1 85 xq2 ∧ σ.2.1 85 xq2 ≤ 2147483647) := wf_85 hw hk4o
      have g6kd : σ.2.1 85 xq2 = ckd (tkS Sx jy) := (rfl).symm.trans ((hfy).kd (hx3))
      refine tn_sipush dX5_take_50 (by decide) ?_
      refine tn_icmp_eq (tgt := 94) dX5_take_53 (by decide) ⟨by omega, by omega⟩ ⟨by decide, by decide⟩ (fun h7 => ?_) (fun h7 => ?_)
      · exact tn_sub [0, 1] rfl (hx_94 T (i3) σ hG hw (FrC.rfl.trans (FrC.sub hF (by decide))) h_a (by omega) True.intro True.intro ⟨⟨hIy, hPy, hFy⟩, jy, ey, Ny, mzy, Pfy, try9, hfy, by omega, htc⟩)
      · have hk9 : ckd (tkS Sx jy) ≠ 264 := by omega
        refine tn_aload_n dX5_take_56 rfl 0 rfl ?_
        refine tn_getR (ci := 5) (i := 0) (n := 33) (x := xq2) dX5_take_57 rfl lay_5 (by decide) fl5_12 h_a rfl rfl (hx3) ?_
        refine tn_getI (ci := 9) (i := 6) (n := 87) (t := σ.2.1 87 xq2) dX5_take_60 rfl lay_9 (by decide) fl5_74 hk4o rfl rfl (rfl) ?_
        have g8 : ((-2147483648 : Int) ≤ σ.2.1 87 xq2 ∧ σ.2.1 87 xq2 ≤ 2147483647) := wf_87 hw hk4o
        have g8pl : σ.2.1 87 xq2 = (tkS Sx jy).1 := (rfl).symm.trans ((hfy).pl (hx3))
        refine tn_istore (L' := [(4, .int (iI (σ.2.1 87 xq2))), (0, .ref a), (3, .int (iI i3))]) dX5_take_63 (by decide) rfl ?_
        refine tn_aload_n dX5_take_65 rfl 1 rfl ?_
        refine tn_callV (M := m_X5_take) (pc := 66) (ix := 75) (ci := 5) (M' := m_X5_header) (As := []) (rest := []) dX5_take_66 ok_X5_header im_X5_header se_X5_header ml5_75 np_X5_header rfl rfl h_a rfl (Nat.le_of_ble_eq_true rfl) (Nat.le_of_ble_eq_true rfl) rfl (k_X5_header_m (d + 73) (T := T) (σ := σ) (a := a) h_a hw hrt hfy h5y (by omega) hIy (SPX.spk hPy) htc.1) (fun r9 T11 σ10 gt12 hp => ?_)
        obtain ⟨v16, rfl, rfl, w17, F18, f13, f14, f15⟩ := hp
        clear gt12
        show Tn _ _ 69 T σ10 [(4, .int (iI (σ.2.1 87 xq2))), (0, .ref a), (3, .int (iI i3))] [.int (iI v16)] _
        refine tn_if_eq (tgt := 80) dX5_take_69 (by decide) ⟨by omega, by omega⟩ (fun h19 => ?_) (fun h19 => ?_)
        · obtain ⟨⟨pl20, g21, fx22⟩, nf23⟩ := f15.2 (by omega)
          have ff24 : INJ Sj T σ10 ∧ SPX Sj E T σ10 a ∧ FRT Sj E Tq sq T σ10 := by
            rcases nf23 with q9 | ⟨d9, s9, i9, o9, b9, w9, g9⟩
            · exact FRT.nt hFy hIy hPy hwq haq q9
            · have z9 := FRT.og hFy hIy hPy hwq haq o9 b9 w9 g9; exact ⟨z9.1, z9.2.1, z9.2.2.1⟩
          exact tn_sub [1, 2] rfl (hx_80 T (i3) σ10 hG w17 ((FrC.rfl.trans (FrC.sub hF (by decide))).trans (FrC.sub (FrC.old F18 hG) (by decide))) h_a (by omega) True.intro True.intro ⟨_, TR9.fh hSb try9 hk9 g21, fx22⟩ ff24)
        · have rp25 := f14 (by omega)
          obtain ⟨i26, es27, k28, dc29, sz30, lo31, hd32, fx33, fx33rn, hm34, op35, w36, mgh37, ke38, rp39, rq40, fs41⟩ := f15.1 (by omega)
          obtain ⟨gs, hgs⟩ : ∃ g, g = fzg sz30 := ⟨_, rfl⟩
          obtain ⟨Tg, hTg⟩ : ∃ t, t = T := ⟨_, rfl⟩
          have hgf : gs.1 5 = 0 := by rw [hgs]; rfl
          have mgh37m : MG Tg gs T σ10 a mx := by rw [hgs, hTg, hmx9]; exact mgh37
          have mb9 : MBD mx := by rw [hmx9]; exact ⟨Int.le_refl _, Int.le_refl _, Int.le_refl _, Int.le_refl _⟩
          have hd842 : σ10.2.1 38 a = (es27.foldl uC (ey.foldl uC c00)).rn := (rfl).symm.trans (fx33).1.2.1.1.2.2.1
          refine tn_aload_n dX5_take_72 rfl 1 rfl ?_
          refine tn_iconst dX5_take_73 ?_
          have q4543 : (es27.foldl uC (ey.foldl uC c00)).m = σ.2.1 45 a := (fx33.e45).symm.trans (rc_F F18 (Or.inl (by decide)) (by decide) (rfl))
          refine tn_callV (M := m_X5_take) (pc := 74) (ix := 79) (ci := 5) (M' := m_X5_block) (As := [.int (iI 1)]) (rest := []) dX5_take_74 ok_X5_block im_X5_block se_X5_block ml5_79 np_X5_block rfl rfl h_a rfl (Nat.le_of_ble_eq_true rfl) (Nat.le_of_ble_eq_true rfl) rfl (k_X5_block_m (d) (T := T) (σ := σ10) (a := a) (dp := 1) (kp := 4) (bx := 0) (nm := nm) (Tg := Tg) (gs := gs) (mx := mx) h_a (by decide) w17 (by omega) fx33 mgh37m mb9 hgf (by omega) (by rw [q4543]; omega) (by omega) rp25) (fun r44 T46 σ45 gt47 hp => ?_)
          obtain ⟨v51, rfl, w52, F53, f48, f49, f50⟩ := hp
          replace h_a : OB T46 a 5 := gt47.ob h_a
          have rp55 : RP σ45 a (- 10 * v51 + 6) := RP.up f50 (by omega)
          show Tn _ _ 77 T46 σ45 [(4, .int (iI (σ.2.1 87 xq2))), (0, .ref a), (3, .int (iI i3))] [.int (iI v51)] _
          refine tn_if_ne (tgt := 82) dX5_take_77 (by decide) ⟨by omega, by omega⟩ (fun h56 => ?_) (fun h56 => ?_)
          · refine tn_aload_n dX5_take_82 rfl 1 rfl ?_
            refine tn_iload dX5_take_83 0 rfl ?_
            obtain ⟨i57, es58, m59, mw60, lo61, rr62, fx63, fm64, ni65, mgq66, mb67, cn68⟩ := f49.1 (by omega)
            have fx63s : σ45.2.1 45 a ≤ (i57 : Int) := by rw [fx63.e45]; exact fm64
            have ci69i : INJ Sj Tg gs := by rw [hgs, hTg]; exact OPM.inj op35 hIy
            have ci69w : WT Tg gs := by rw [hgs, hTg]; exact WT.fz w36
            have ci69e : dc29 = E (if (ey.foldl uC c00).rn < 6 then (ey.foldl uC c00).rn else 6) := by have z9 := (hPy.2.1 (if (ey.foldl uC c00).rn < 6 then (ey.foldl uC c00).rn else 6) (by split <;> omega) (by split <;> omega)).1; have z8 := (op35).1; rw [z8] at z9; omega
            have ci69s : Sj (adN gs 35 a) := by rw [hgs, show adN (fzg sz30) 35 a = dc29 from adN_of (op35).2.1, ci69e]; exact (hPy.2.1 (if (ey.foldl uC c00).rn < 6 then (ey.foldl uC c00).rn else 6) (by split <;> omega) (by split <;> omega)).2.1
            refine tn_callV (M := m_X5_take) (pc := 85) (ix := 83) (ci := 5) (M' := m_X5_closeRoutine) (As := [.int (iI (σ.2.1 87 xq2))]) (rest := []) dX5_take_85 ok_X5_closeRoutine im_X5_closeRoutine se_X5_closeRoutine ml5_83 np_X5_closeRoutine rfl rfl h_a rfl (Nat.le_of_ble_eq_true rfl) (Nat.le_of_ble_eq_true rfl) rfl (k_X5_closeRoutine_m (d + 74) (T := T46) (σ := σ45) (a := a) (w := σ.2.1 87 xq2) (kp := - 10 * v51 + 6) (Tg := Tg) (gs := gs) (mx := mw60) (Sj := Sj) h_a (by omega) w52 fx63 mgq66 mb67 ci69i ci69w ci69s (by omega) rp55) (fun r70 T72 σ71 gt73 hp => ?_)
            obtain ⟨rfl, w78, F79, f74, f75, f76⟩ := hp
            replace h_a : OB T72 a 5 := gt73.ob h_a
            have rp81 : RP σ71 a (- 10 * v51 + 7) := RP.up f76 (by omega)
            have fx82 : RDX σ71 a Sx nx i57 ((ey ++ es27 ++ es58 ++ [(0, (tkS Sx jy).1, 0 + m59 + 1, 0)]).foldl uC c00) (0 + m59 + 1) := RDX.cq f74 (by rw [g8pl]; simp only [List.foldl_append, List.foldl_cons, List.foldl_nil])
            show Tn _ _ 88 T72 σ71 [(4, .int (iI (σ.2.1 87 xq2))), (0, .ref a), (3, .int (iI i3))] [] _
            refine tn_iinc (q0 := 2) (L' := [(3, .int (iI (i3 + 1))), (4, .int (iI (σ.2.1 87 xq2))), (0, .ref a)]) dX5_take_88 rfl (by decide) rfl ?_
            refine tn_goto (tgt := 36) dX5_take_91 (by decide) ?_
            have hx838 : ((ey ++ es27 ++ es58 ++ [(0, (tkS Sx jy).1, 0 + m59 + 1, 0)]).foldl uC c00).rn = σ10.2.1 38 a := (fx82.1.2.1.1.2.2.1).symm.trans (rc_F F79 (Or.inl (by decide)) (by decide) (rc_F F53 (Or.inl (by decide)) (by decide) (rfl)))
            have hx835 : ((ey ++ es27 ++ es58 ++ [(0, (tkS Sx jy).1, 0 + m59 + 1, 0)]).foldl uC c00).m = σ45.2.1 45 a := (fx82.e45).symm.trans (rc_F F79 (Or.inl (by decide)) (by decide) (rfl))
            have hx83h : σ10.2.1 38 a = (ey.foldl uC c00).rn + 1 := (hd842).trans fx33rn
            obtain ⟨hx83z, hx83w, hx83m, hx83t⟩ := f75
            have hx83a : adN gs 35 a = dc29 := by rw [hgs]; exact adN_of (op35).2.1
            rw [hx83a] at hx83t
            rw [hgs, hTg] at hx83m
            have hx83f := FRT.cl hFy hIy hPy hwq haq op35 ⟨by split <;> omega, by split <;> omega⟩ w36 hx83m.1 hx83w hx83t
            have hx83k : k28 ≤ 4 → σ71.2.1 8 dc29 = k28 := fun q9 => (((congrFun (F79.1 8 (Or.inl (by decide)) (by decide)) (dc29 : Int)).trans (congrFun (F53.1 8 (Or.inl (by decide)) (by decide)) (dc29 : Int))) : σ71.2.1 8 dc29 = σ10.2.1 8 dc29).trans (ke38 q9)
            have hx83cn : CN nm mzy.e35.rt (es58.foldl uC (es27.foldl uC (ey.foldl uC c00))) (GW Sx nm rnQ tb1 [28] i26 0 0 u0 mzy.e35 [] i57 0 0 u0 m59 (mw60.on mzy.e35)) := by rw [← hmx9]; exact cn68
            have hx83c := TLC.on (p := (tkS Sx jy).1) (m := m59) (mw := mw60) hSb hk9 htc (by omega) hm34 fx33rn rp39 rq40 fs41 (GR.bd rr62) hx83cn hx83m op35 hx83t fx82 hx83k (fun q9 q0 q1 ne => hx83f.2.2.2.2 (E q9) (hPy.2.1 q9 q0 q1).2.1 (hPy.ob q0 q1) ne) hPy hx83f.2.2.2.1 (OPM.inj op35 hIy) w36 haq
            have hx83 : TLM Sj E nm z0 Tq sq T72 σ71 a Sx nx (5 * (i3 + 1)) := ⟨hx83f.1, hx83f.2.1, hx83f.2.2.1, i57, ey ++ es27 ++ es58 ++ [(0, (tkS Sx jy).1, 0 + m59 + 1, 0)], 0 + m59 + 1, _, _, by omega, TR9.on hSb try9 hk9 hd32 rr62, fx82.1, by rw [hx838]; omega, by rw [hx835]; omega, hx83c⟩
            exact tn_sub [2, 0] rfl (ih _ (by omega) T72 (i3 + 1) σ71 (GT.trans (GT.trans hG gt47) gt73) w78 ((((FrC.rfl.trans (FrC.sub hF (by decide))).trans (FrC.sub (FrC.old F18 hG) (by decide))).trans (FrC.sub (FrC.old F53 hG) (by decide))).trans (FrC.sub (FrC.old F79 (GT.trans hG gt47)) (by decide))) h_a (by omega) (RP.rt rp81 w78 h_a) hx83 rfl)
          · obtain ⟨⟨pl84, g85, fx86⟩, nf87⟩ := f49.2 (by omega)
            have ff88g : FG T (fzg sz30) T46 σ45 a := by have q9 := nf87; rw [hgs, hTg] at q9; exact q9
            have ff88 : INJ Sj T46 σ45 ∧ SPX Sj E T46 σ45 a ∧ FRT Sj E Tq sq T46 σ45 := by have z9 := FRT.og hFy hIy hPy hwq haq op35 ⟨by split <;> omega, by split <;> omega⟩ w36 ff88g; exact ⟨z9.1, z9.2.1, z9.2.2.1⟩
            exact tn_sub [1, 2] rfl (hx_80 T46 (i3) σ45 (GT.trans hG gt47) w52 (((FrC.rfl.trans (FrC.sub hF (by decide))).trans (FrC.sub (FrC.old F18 hG) (by decide))).trans (FrC.sub (FrC.old F53 hG) (by decide))) h_a (by omega) True.intro True.intro ⟨_, TR9.fb hSb try9 hk9 hd32 g85, fx86⟩ ff88)
set_option maxHeartbeats 1000000 in
set_option maxRecDepth 20000 in
theorem k_X5_take_m (d : Nat) {T : CT} {σ : MS} {a : Nat} {t : Nat} {n : Int} {fT Sx : Int → Int} {Sj : Nat → Prop} {E : Int → Nat} {nm : Int → Int64 → Int} {z0 : MK} (ha : OB T a 5) (h_t : (T t).1 = 2) (l_t : (T t).2 ≤ 1000000) (h_n : -2147483648 ≤ n ∧ n ≤ 2147483647) (hw : WT T σ) (ht : (T t).2 = 1200) (hn : 0 ≤ n ∧ n ≤ 1200) (hfT : RWE σ t fT n) (hB : BYT fT) (hSx : Sx = svC fT n) (hI : INJ Sj T σ) (hP : SPX Sj E T σ a) (hz : z0.rt = 0 ∧ z0.ln = 0 ∧ z0.pk = σ.2.1 50 a ∧ z0.pv = σ.2.1 51 a) : Tn (d + 79) m_X5_take 0 T σ [(0, .ref a), (1, .ref t), (2, .int (iI n))] [] (fun ro T2 σ2 => ∃ v : Int, ro = some (.int (iI v)) ∧ WT T2 σ2 ∧ FrC T [5, 6, 7, 8, 9, 10, 35, 38, 42, 43, 44, 45, 46, 47, 50, 51, 84, 85, 86, 87, 512, 516, 517, 518, 519, 520, 521, 522, 523] σ σ2 ∧ (v = 0 ∨ v = 1) ∧ (TO9 σ2 a Sx v) ∧ (TOM Sj E nm z0 T σ T2 σ2 a Sx v)) := by
  have hrow := hfT
  refine tn_aload_n dX5_take_0 rfl 0 rfl ?_
  refine tn_iconst dX5_take_1 ?_
  refine tn_putV (ci := 5) (i := 10) (n := 43) (r := false) (v := 0) tyX5 tyX5_ok nmX5 dX5_take_2 rfl lay_5 (by decide) fl5_51 rfl (tyX5_ok 10 (by decide)) rfl rfl rfl ha rfl rfl ?_
  refine tn_aload_n dX5_take_5 rfl 0 rfl ?_
  refine tn_iconst dX5_take_6 ?_
  refine tn_putV (ci := 5) (i := 11) (n := 44) (r := false) (v := -1) tyX5 tyX5_ok nmX5 dX5_take_7 rfl lay_5 (by decide) fl5_55 rfl (tyX5_ok 11 (by decide)) rfl rfl rfl ha rfl rfl ?_
  refine tn_aload_n dX5_take_10 rfl 0 rfl ?_
  refine tn_iconst dX5_take_11 ?_
  refine tn_putV (ci := 5) (i := 5) (n := 38) (r := false) (v := 0) tyX5 tyX5_ok nmX5 dX5_take_12 rfl lay_5 (by decide) fl5_58 rfl (tyX5_ok 5 (by decide)) rfl rfl rfl ha rfl rfl ?_
  refine tn_aload_n dX5_take_15 rfl 0 rfl ?_
  refine tn_iconst dX5_take_16 ?_
  refine tn_putV (ci := 5) (i := 9) (n := 42) (r := false) (v := 0) tyX5 tyX5_ok nmX5 dX5_take_17 rfl lay_5 (by decide) fl5_61 rfl (tyX5_ok 9 (by decide)) rfl rfl rfl ha rfl rfl ?_
  refine tn_aload_n dX5_take_20 rfl 0 rfl ?_
  refine tn_iconst dX5_take_21 ?_
  refine tn_putV (ci := 5) (i := 12) (n := 45) (r := false) (v := 0) tyX5 tyX5_ok nmX5 dX5_take_22 rfl lay_5 (by decide) fl5_64 rfl (tyX5_ok 12 (by decide)) rfl rfl rfl ha rfl rfl ?_
  refine tn_aload_n dX5_take_25 rfl 0 rfl ?_
  obtain ⟨xq1, hx2, hk3⟩ : ∃ x : Nat, σ.2.1 33 a = (x : Int) ∧ (T x).1 = 39 := wf_33 hw ha
  have hk3o : OB T xq1 9 := ⟨by omega, by rw [hk3]; rfl, by omega⟩
  refine tn_getR (ci := 5) (i := 0) (n := 33) (x := xq1) dX5_take_26 rfl lay_5 (by decide) fl5_12 ha rfl rfl (rc_o (by decide) (rc_o (by decide) (rc_o (by decide) (rc_o (by decide) (rc_o (by decide) (hx2)))))) ?_
  refine tn_aload_n dX5_take_29 rfl 1 rfl ?_
  refine tn_iload_n dX5_take_30 rfl 2 rfl ?_
  refine tn_callV (M := m_X5_take) (pc := 31) (ix := 67) (ci := 9) (M' := m_X9_scan) (As := [.ref t, .int (iI n)]) (rest := []) dX5_take_31 ok_X9_scan im_X9_scan se_X9_scan ml5_67 np_X9_scan rfl rfl hk3o rfl (Nat.le_of_ble_eq_true rfl) (Nat.le_of_ble_eq_true rfl) rfl (k_X9_scan_fw (d + 75) (T := T) (σ := (sA 45 a (0) (sA 42 a (0) (sA 38 a (0) (sA 44 a (-1) (sA 43 a (0) σ)))))) (a := xq1) (t := t) (n := n) hk3o h_t (by omega) (by omega) (((((hw.put (by decide) (by decide) (fo_43 (by omega))).put (by decide) (by decide) (fo_44 (by omega))).put (by decide) (by decide) (fo_38 (by omega))).put (by decide) (by decide) (fo_42 (by omega))).put (by decide) (by decide) (fo_45 (by omega))) ht hn (RWE.cg (RWE.cg (RWE.cg (RWE.cg (RWE.cg hrow (sA_k (by omega))) (sA_k (by omega))) (sA_k (by omega))) (sA_k (by omega))) (sA_k (by omega))) hB hSx) (fun r5 T7 σ6 gt8 hp => ?_)
  obtain ⟨rfl, rfl, w13, F14, f9, f10, f11⟩ := hp
  clear gt8
  obtain ⟨m15, m15t⟩ := f10
  show Tn _ _ 34 T σ6 [(0, .ref a), (1, .ref t), (2, .int (iI n))] [] _
  refine tn_iconst dX5_take_34 ?_
  refine tn_istore_n (L' := [(3, .int (iI 0)), (0, .ref a), (1, .ref t), (2, .int (iI n))]) dX5_take_35 rfl (by decide) rfl ?_
  have q17 : σ6.2.1 43 a = 0 := rc_F F14 (Or.inl (by decide)) (by decide) (rc_o (by decide) (rc_o (by decide) (rc_o (by decide) (rc_o (by decide) (ra_eq)))))
  have q18 : σ6.2.1 44 a = -1 := rc_F F14 (Or.inl (by decide)) (by decide) (rc_o (by decide) (rc_o (by decide) (rc_o (by decide) (ra_eq))))
  have q19 : σ6.2.1 38 a = 0 := rc_F F14 (Or.inl (by decide)) (by decide) (rc_o (by decide) (rc_o (by decide) (ra_eq)))
  have q20 : σ6.2.1 42 a = 0 := rc_F F14 (Or.inl (by decide)) (by decide) (rc_o (by decide) (ra_eq))
  have q21 : σ6.2.1 45 a = 0 := rc_F F14 (Or.inl (by decide)) (by decide) (ra_eq)
  have w16k : TKR σ6 a Sx m15 0 := ⟨by rw [hSx]; exact svC_sb hB, fun t ht => by
    have e : t = xq1 := by have q9 := (rc_F F14 (Or.inl (by decide)) (by decide) (rc_o (by decide) (rc_o (by decide) (rc_o (by decide) (rc_o (by decide) (rc_o (by decide) (hx2))))))); omega
    rw [e]; exact m15t⟩
  have w16c : CS0 σ6 a c00 := ⟨⟨q17, q18, q19, q20, q21⟩, fun _ _ i h1 h2 => absurd (show i < 0 from h2) (by omega), fun _ _ i h1 h2 => absurd (show i < 0 from h2) (by omega), fun _ _ i h1 h2 => absurd (show i < 0 from h2) (by omega), fun _ _ i h1 h2 => absurd (show i < 0 from h2) (by omega), fun _ _ i h1 h2 => absurd (show i < 0 from h2) (by omega)⟩
  have w16r : TRT T σ σ6 := (TRT.trans (TRT.pt (TRT.pt (TRT.pt (TRT.pt (TRT.pt TRT.rfl (by decide)) (by decide)) (by decide)) (by decide)) (by decide)) f11)
  have w16F : FrC T [38, 42, 43, 44, 45, 84, 85, 86, 87, 512, 522, 523] σ σ6 := ((((((FrC.rfl.put (by decide) (by decide)).put (by decide) (by decide)).put (by decide) (by decide)).put (by decide) (by decide)).put (by decide) (by decide)).trans (FrC.sub F14 (by decide)))
  have w16f := FRT.in hI hP hw ha (fun n9 b9 hn9 hm9 => congrFun (w16F.1 n9 (Or.inl hn9) (fun q9 => hm9 (by simp only [List.mem_cons, List.not_mem_nil, or_false] at q9 ⊢; omega))) (b9 : Int)) w16r (fun x9 h9 => w16F.2 x9 (by unfold HT; omega) (by rw [h9]; decide))
  have w16 : TLM Sj E nm z0 T σ T σ6 a Sx m15 (5 * (0)) := ⟨w16f.1, w16f.2.1, w16f.2.2, 0, [], 0, z0, fun _ => [], by omega, TR9.nl, ⟨w16k, w16c, by unfold PO; show (6 * (0 : Int) ≤ ((0 : Nat) : Int)) ∧ (5 * (0 : Int) ≤ ((0 : Nat) : Int) + 5) ∧ ((0 : Int) ≤ 0) ∧ ((0 : Int) ≤ ((0 : Nat) : Int) + 1); omega⟩, by show 5 * (0 : Int) ≤ ((0 : Nat) : Int); omega, by show (0 : Int) ≤ ((0 : Nat) : Int); omega, ⟨(q21).trans hz.2.1.symm, (show σ6.2.1 50 a = σ.2.1 50 a from rc_F F14 (Or.inl (by decide)) (by decide) (rc_o (by decide) (rc_o (by decide) (rc_o (by decide) (rc_o (by decide) (rc_o (by decide) (rfl))))))).trans hz.2.2.1.symm, (show σ6.2.1 51 a = σ.2.1 51 a from rc_F F14 (Or.inl (by decide)) (by decide) (rc_o (by decide) (rc_o (by decide) (rc_o (by decide) (rc_o (by decide) (rc_o (by decide) (rfl))))))).trans hz.2.2.2.symm⟩, hz.1, fun q9 _ h9 => absurd (show q9 < 0 from h9) (by omega), fun _ => GCW.of GCM.nl rfl, fun _ => ⟨by show (0 : Int) ≤ 6; decide, fun q9 _ h9 => absurd (show q9 < 0 from h9) (by omega)⟩, fun q9 _ h9 => absurd (show q9 < 0 from h9) (by omega)⟩
  refine tn_sub [1, 0] rfl (l_X5_take_m_36 (d) (σ0 := σ6) (T0 := T) (a := a) (Sx := Sx) (nx := m15) (Sj := Sj) (E := E) (nm := nm) (z0 := z0) (Tq := T) (sq := σ) w13 (fun T24 i322 σ23 gt25 w26 F27 q28 r29 f30 f31 f32 f33 => ?_) (fun T36 i334 σ35 gt37 w38 F39 q40 r41 f42 f43 f44 => ?_) _ T (0) σ6 GT.rfl w13 FrC.rfl ha (by omega) (RT.of (rc_F F14 (Or.inl (by decide)) (by decide) (rc_o (by decide) (rc_o (by decide) (rc_o (by decide) (rc_o (by decide) (rc_o (by decide) (hx2))))))) f9) w16 rfl)
  · show Tn _ _ 80 T24 σ23 [(0, .ref a), (3, .int (iI i322))] [] _
    refine tn_iconst dX5_take_80 ?_
    exact tn_zret (v := 0) rfl (by decide) dX5_take_81 ⟨_, rfl, w26, (((((((FrC.rfl.put (by decide) (by decide)).put (by decide) (by decide)).put (by decide) (by decide)).put (by decide) (by decide)).put (by decide) (by decide)).trans (FrC.sub F14 (by decide))).trans (FrC.sub F27 (by decide))), by omega, TLF.to f32 rfl, ⟨f33.1, f33.2.1, f33.2.2, fun q => absurd q (by decide)⟩⟩
  · obtain ⟨ff45, i46, es47, N48, mz49, Pf50, tr51, fx52, hk53, tc54⟩ := f44
    have hSb := fx52.sb
    have tc54w : WT T36 σ35 := w38
    have tc54a : OB T36 a 5 := q40
    have tc54b := wf_38 tc54w tc54a
    have tc548 : σ35.2.1 38 a = (es47.foldl uC c00).rn := fx52.2.1.1.2.2.1
    show Tn _ _ 94 T36 σ35 [(0, .ref a), (3, .int (iI i334))] [] _
    refine tn_aload_n dX5_take_94 rfl 0 rfl ?_
    refine tn_callV (M := m_X5_take) (pc := 95) (ix := 87) (ci := 5) (M' := m_X5_settleCalls) (As := []) (rest := []) dX5_take_95 ok_X5_settleCalls im_X5_settleCalls se_X5_settleCalls ml5_87 np_X5_settleCalls rfl rfl q40 rfl (Nat.le_of_ble_eq_true rfl) (Nat.le_of_ble_eq_true rfl) rfl (k_X5_settleCalls_m (d + 75) (T := T36) (σ := σ35) (a := a) (E := E) q40 w38 fx52 (SPX.spe ff45.2.1) (SPX.eap ff45.2.1 ff45.1) (fun h9 q9 q0 q1 q2 => by have z9 := tc54.2.2.2.2.1 h9; have z8 := (tc54.2.2.2.2.2 q9 q0 q1 (by omega)).1.1.1; have z7 := z9.2 q9 q0 q1; omega)) (fun r55 T57 σ56 gt58 hp => ?_)
    obtain ⟨v62, rfl, rfl, w63, F64, f59, f60, f61⟩ := hp
    clear gt58
    show Tn _ _ 98 T36 σ56 [(0, .ref a), (3, .int (iI i334))] [.int (iI v62)] _
    have tz65 := FRT.st ff45.2.2 ff45.1 ff45.2.1 tc54w tc54a f61.1
    have tz65v : v62 = 1 → ∃ (i : Nat) (es : List EW) (N : Int) (mz : MK) (Pf : Int → List EW) (f : Int → Int), (TR9 Sx i N es ∧ ckd (tkS Sx i) = 264 ∧ SB Sx) ∧ ((es.foldl uC c00).fp.1 = 0 ∧ 0 ≤ (es.foldl uC c00).rn ∧ (es.foldl uC c00).rn ≤ 6 ∧ σ56.2.1 38 a = (es.foldl uC c00).rn) ∧ PFX es Pf ∧ ((∀ q, 0 ≤ q → q < (es.foldl uC c00).rn → NMA nm q ((Pf q).foldl uC c00)) → TXW Sx nm rnQ tb1 z0 i N mz) ∧ RFC (es.foldl uC c00) f ∧ ∀ q, 0 ≤ q → q < (es.foldl uC c00).rn → (mz.dn q).1 ≤ 120 ∧ CDS σ56 (E q) q (mz.dn q).1 (mz.dn q).2 (mz.fr q) ((Pf q).foldl uC c00).nn ((es.foldl uC c00).rp q) f := fun hv => by
      obtain ⟨q1, f9, q2, q3⟩ := f61.2 hv
      have b9 := tc54.2.2.2.2.1 q1
      refine ⟨i46, es47, N48, mz49, Pf50, f9, ⟨tr51, hk53, hSb⟩, ⟨q1, by omega, b9.1, f60.2.1⟩, tc54.2.2.1, tc54.2.2.2.1, q2, fun q9 q0 q1 => ⟨b9.2 q9 q0 q1, CDS.of (tc54.2.2.2.2.2 q9 q0 q1 (by omega)) (b9.2 q9 q0 q1) ff45.1 ff45.2.1 q0 (by omega) f61.1 (q3 q9 q0 q1 (by omega))⟩⟩
    exact tn_zret (v := v62) rfl (by omega) dX5_take_98 ⟨_, rfl, w63, ((((((((FrC.rfl.put (by decide) (by decide)).put (by decide) (by decide)).put (by decide) (by decide)).put (by decide) (by decide)).put (by decide) (by decide)).trans (FrC.sub F14 (by decide))).trans (FrC.sub F39 (by decide))).trans (FrC.sub (FrC.old F64 gt37) (by decide))), by omega, TO9.ok hSb tr51 hk53 f60, ⟨tz65.1, tz65.2.1, tz65.2.2, tz65v⟩⟩
end
section
def opN (N k v : Int) : Int := if k = 2 then nwN N v else v
def mpI (N : Int) (f : Int → Int) (i : It) : It := fun c => if c = 1 ∧ (i 0 ≤ 5 ∨ i 0 = 10) then nwN N (i 1) else if c = 2 ∧ i 0 = 10 then f (i 2) else if (c = 4 ∨ c = 6 ∨ c = 8 ∨ c = 10) ∧ i (c - 1) = 2 then nwN N (i c) else i c
section MPS
variable {N k d o ak a bk b w g c : Int} {f : Int → Int} {i : It} {as : List (Int × Int)}
theorem nw_lt (h : g < 1000) : nwN N g = g := by unfold nwN; rw [if_neg (by omega)]
theorem nw_ge (h : 0 ≤ g) : nwN N (1000 + g) = N + g := by unfold nwN; rw [if_pos (by omega)]; omega
theorem op_1 : opN N 1 g = g := by unfold opN; rw [if_neg (by decide)]
theorem op_lt (h : g < 1000) : opN N k g = g := by
  unfold opN
  by_cases e : k = 2
  · rw [if_pos e, nw_lt h]
  · rw [if_neg e]
theorem mp_o (h1 : c ≠ 1 ∨ ¬ (i 0 ≤ 5 ∨ i 0 = 10)) (h2 : c ≠ 2 ∨ i 0 ≠ 10) (h3 : ¬ (c = 4 ∨ c = 6 ∨ c = 8 ∨ c = 10)) : mpI N f i c = i c := by
  unfold mpI
  rw [if_neg (fun q => by rcases h1 with z | z; exact z q.1; exact z q.2), if_neg (fun q => by rcases h2 with z | z; exact z q.1; exact z q.2), if_neg (fun q => h3 q.1)]
theorem mp_a (h : c = 4 ∨ c = 6 ∨ c = 8 ∨ c = 10) : mpI N f i c = opN N (i (c - 1)) (i c) := by
  unfold mpI opN
  rw [if_neg (fun q => by omega), if_neg (fun q => by omega)]
  by_cases e : i (c - 1) = 2
  · rw [if_pos ⟨h, e⟩, if_pos e]
  · rw [if_neg (fun q => e q.2), if_neg e]
theorem mp_1 (h : i 0 ≤ 5 ∨ i 0 = 10) : mpI N f i 1 = nwN N (i 1) := by unfold mpI; rw [if_pos ⟨rfl, h⟩]
theorem mp_2 (h : i 0 = 10) : mpI N f i 2 = f (i 2) := by unfold mpI; rw [if_neg (by omega), if_pos ⟨rfl, h⟩]
theorem mp_mk (h5 : 5 < k) (h10 : k ≠ 10) : mpI N f (mkI k d o ak a w) = mkI k d o ak (opN N ak a) w := by
  have k0 : mkI k d o ak a w 0 = k := rfl
  funext c
  by_cases h : c = 4 ∨ c = 6 ∨ c = 8 ∨ c = 10
  · rw [mp_a h]
    rcases h with rfl | rfl | rfl | rfl
    · rfl
    · exact op_lt (show (0 : Int) < 1000 by decide)
    · exact op_lt (show (0 : Int) < 1000 by decide)
    · exact op_lt (show (0 : Int) < 1000 by decide)
  · rw [mp_o (Or.inr (by rw [k0]; omega)) (Or.inr (by rw [k0]; omega)) h]
    show mkI k d o ak a w c = mkI k d o ak (opN N ak a) w c
    unfold mkI
    rw [if_neg (show ¬ c = 4 by omega), if_neg (show ¬ c = 4 by omega)]
theorem mp_cp (hd : d < 1000) : mpI N f (mkI 0 d 0 ak a 0) = mkI 0 d 0 ak (opN N ak a) 0 := by
  have k0 : mkI 0 d 0 ak a 0 0 = 0 := rfl
  funext c
  by_cases h : c = 4 ∨ c = 6 ∨ c = 8 ∨ c = 10
  · rw [mp_a h]
    rcases h with rfl | rfl | rfl | rfl
    · rfl
    · exact op_lt (show (0 : Int) < 1000 by decide)
    · exact op_lt (show (0 : Int) < 1000 by decide)
    · exact op_lt (show (0 : Int) < 1000 by decide)
  · by_cases h1 : c = 1
    · subst h1
      rw [mp_1 (Or.inl (by rw [k0]; decide))]
      exact nw_lt hd
    · rw [mp_o (Or.inl h1) (Or.inr (by rw [k0]; decide)) h]
      show mkI 0 d 0 ak a 0 c = mkI 0 d 0 ak (opN N ak a) 0 c
      unfold mkI
      rw [if_neg (show ¬ c = 4 by omega), if_neg (show ¬ c = 4 by omega)]
theorem mp_it2 (hk : k ≤ 5) : mpI N f (it2 k d ak a bk b) = it2 k (nwN N d) ak (opN N ak a) bk (opN N bk b) := by
  have k0 : it2 k d ak a bk b 0 = k := rfl
  funext c
  by_cases h : c = 4 ∨ c = 6 ∨ c = 8 ∨ c = 10
  · rw [mp_a h]
    rcases h with rfl | rfl | rfl | rfl
    · rfl
    · rfl
    · exact op_lt (show (0 : Int) < 1000 by decide)
    · exact op_lt (show (0 : Int) < 1000 by decide)
  · by_cases h1 : c = 1
    · subst h1
      rw [mp_1 (Or.inl (by rw [k0]; exact hk))]
      rfl
    · rw [mp_o (Or.inl h1) (Or.inr (by rw [k0]; omega)) h]
      unfold it2
      rw [if_neg h1, if_neg h1, if_neg (show ¬ c = 4 by omega), if_neg (show ¬ c = 4 by omega), if_neg (show ¬ c = 6 by omega), if_neg (show ¬ c = 6 by omega)]
def mpA (N : Int) (as : List (Int × Int)) : List (Int × Int) := as.map (fun p => (p.1, opN N p.1 p.2))
theorem arg_mp (j : Nat) : argA (mpA N as) j = ((argA as j).1, opN N (argA as j).1 (argA as j).2) := by
  unfold argA mpA
  by_cases h : j < as.length
  · simp [List.getD_eq_getElem?_getD, List.getElem?_map, h]
  · have e1 : (as.map (fun p => (p.1, opN N p.1 p.2)))[j]? = none := by rw [List.getElem?_eq_none_iff]; simp; omega
    have e2 : as[j]? = none := by rw [List.getElem?_eq_none_iff]; omega
    simp only [List.getD_eq_getElem?_getD, e1, e2]
    show ((0 : Int), (0 : Int)) = (0, opN N 0 0)
    rw [op_lt (show (0 : Int) < 1000 by decide)]
theorem mp_itC (hd : d < 1000) : mpI N f (itC d o as) = itC d (f o) (mpA N as) := by
  have k0 : itC d o as 0 = 10 := rfl
  funext c
  by_cases h : c = 4 ∨ c = 6 ∨ c = 8 ∨ c = 10
  · rw [mp_a h]
    rcases h with rfl | rfl | rfl | rfl
    · show opN N (argA as 0).1 (argA as 0).2 = (argA (mpA N as) 0).2; rw [arg_mp]
    · show opN N (argA as 1).1 (argA as 1).2 = (argA (mpA N as) 1).2; rw [arg_mp]
    · show opN N (argA as 2).1 (argA as 2).2 = (argA (mpA N as) 2).2; rw [arg_mp]
    · show opN N (argA as 3).1 (argA as 3).2 = (argA (mpA N as) 3).2; rw [arg_mp]
  · by_cases h1 : c = 1
    · subst h1
      rw [mp_1 (Or.inr k0)]
      exact nw_lt hd
    · by_cases h2 : c = 2
      · subst h2
        rw [mp_2 k0]
        rfl
      · rw [mp_o (Or.inl h1) (Or.inl h2) h]
        unfold itC
        rw [arg_mp, arg_mp, arg_mp, arg_mp]
        rw [if_neg h1, if_neg h1, if_neg h2, if_neg h2, if_neg (show ¬ c = 4 by omega), if_neg (show ¬ c = 4 by omega), if_neg (show ¬ c = 6 by omega), if_neg (show ¬ c = 6 by omega), if_neg (show ¬ c = 8 by omega), if_neg (show ¬ c = 8 by omega), if_neg (show ¬ c = 10 by omega), if_neg (show ¬ c = 10 by omega)]
theorem nn_mp (h : i 0 = 12 → i 4 < 1000) : nrm (stI f (nnI N i)) = mpI N f (nrm i) := by
  have n0 : ∀ c, nnI N i c = if c = 1 ∧ (i 0 ≤ 5 ∨ i 0 = 10) then nwN N (i 1) else if (c = 4 ∨ c = 6 ∨ c = 8 ∨ c = 10) ∧ i (c - 1) = 2 then nwN N (i c) else i c := fun c => by
    unfold nnI
    rw [rn3_c]
    have r1 : ∀ z, z ≠ 1 → rn1 (nwN N) i z = i z := fun z hz => by
      unfold rn1
      by_cases q : i 0 ≤ 5 ∨ i 0 = 10
      · rw [if_pos q, uZ_ne hz]
      · rw [if_neg q]
    by_cases c1 : c = 1
    · subst c1
      rw [dI_n (fun ⟨m, p, q, _⟩ => by omega)]
      unfold rn1
      by_cases q : i 0 ≤ 5 ∨ i 0 = 10
      · rw [if_pos q, uZ_eq, if_pos ⟨rfl, q⟩]
      · rw [if_neg q, if_neg (fun z => q z.2), if_neg (fun z => by omega)]
    · rw [if_neg (fun z => c1 z.1), r1 c c1]
      by_cases c4 : (c = 4 ∨ c = 6 ∨ c = 8 ∨ c = 10) ∧ i (c - 1) = 2
      · rw [if_pos c4]
        have c4' := c4.1
        refine dI_y ⟨(c - 4) / 2, ?_, ?_, ?_⟩
        · omega
        · omega
        · rw [r1 (c - 1) (by omega)]; exact c4.2
      · rw [if_neg c4]
        refine dI_n (fun ⟨m, p, q, e⟩ => c4 ⟨by omega, ?_⟩)
        rw [r1 (c - 1) (by omega)] at e
        exact e
  have s0 : nnI N i 0 = i 0 := by rw [n0, if_neg (fun q => by omega), if_neg (fun q => by omega)]
  have sc : ∀ c, stI f (nnI N i) c = if c = 2 ∧ i 0 = 10 then f (i 2) else nnI N i c := fun c => by
    have n2 : nnI N i 2 = i 2 := by rw [n0, if_neg (fun q => by omega), if_neg (fun q => by omega)]
    unfold stI
    rw [s0]
    by_cases q : i 0 = 10
    · rw [if_pos q, n2]
      by_cases z : c = 2
      · subst z; rw [uZ_eq, if_pos ⟨rfl, q⟩]
      · rw [uZ_ne z, if_neg (fun w => z w.1)]
    · rw [if_neg q, if_neg (fun w => q w.2)]
  have t0 : stI f (nnI N i) 0 = i 0 := by rw [sc, if_neg (fun q => by omega), s0]
  have t11 : stI f (nnI N i) 11 = i 11 := by rw [sc, if_neg (fun q => by omega), n0, if_neg (fun q => by omega), if_neg (fun q => by omega)]
  have m0 : nrm i 0 = i 0 := nrm_ne (by decide) (by decide)
  funext c
  by_cases c3 : c = 3
  · subst c3
    rw [mp_o (Or.inl (by decide)) (Or.inl (by decide)) (by decide)]
    by_cases q : i 0 = 12 ∧ (i 11 = 1 ∨ i 11 = 2)
    · rw [nrm_b q.1 q.2, nrm_b (by rw [t0]; exact q.1) (by rw [t11]; exact q.2), t11]
    · unfold nrm
      rw [if_neg (fun z => q (by rw [t0, t11] at z; exact z.2)), if_neg (by decide), if_neg (fun z => q z.2), if_neg (by decide), sc, if_neg (fun z => by omega), n0, if_neg (fun z => by omega), if_neg (fun z => by omega)]
  · by_cases c12 : c = 12
    · subst c12
      rw [nrm_12, mp_o (Or.inl (by decide)) (Or.inl (by decide)) (by decide), nrm_12]
    · rw [nrm_ne c3 c12, sc]
      by_cases c4 : c = 4 ∨ c = 6 ∨ c = 8 ∨ c = 10
      · rw [if_neg (fun z => by omega), n0, if_neg (fun z => by omega), mp_a c4]
        have cc : nrm i c = i c := nrm_ne c3 c12
        rw [cc]
        by_cases e4 : c = 4
        · subst e4
          show (if (4 = 4 ∨ (4 : Int) = 6 ∨ (4 : Int) = 8 ∨ (4 : Int) = 10) ∧ i 3 = 2 then nwN N (i 4) else i 4) = opN N (nrm i 3) (i 4)
          by_cases q : i 0 = 12
          · rw [op_lt (h q)]
            by_cases z : i 3 = 2
            · rw [if_pos ⟨Or.inl rfl, z⟩, nw_lt (h q)]
            · rw [if_neg (fun w => z w.2)]
          · rw [nrm_3 q]
            unfold opN
            by_cases z : i 3 = 2
            · rw [if_pos ⟨Or.inl rfl, z⟩, if_pos z]
            · rw [if_neg (fun w => z w.2), if_neg z]
        · rw [nrm_ne (i := i) (c := c - 1) (by omega) (by omega)]
          unfold opN
          by_cases z : i (c - 1) = 2
          · rw [if_pos ⟨c4, z⟩, if_pos z]
          · rw [if_neg (fun w => z w.2), if_neg z]
      · by_cases c1 : c = 1
        · subst c1
          rw [if_neg (fun z => by omega), n0]
          by_cases q : i 0 ≤ 5 ∨ i 0 = 10
          · rw [if_pos ⟨rfl, q⟩, mp_1 (by rw [m0]; exact q), nrm_ne (by decide) (by decide)]
          · rw [if_neg (fun z => q z.2), if_neg (fun z => c4 z.1), mp_o (Or.inr (by rw [m0]; exact q)) (Or.inl (by decide)) c4, nrm_ne (by decide) (by decide)]
        · by_cases c2 : c = 2
          · subst c2
            by_cases q : i 0 = 10
            · rw [if_pos ⟨rfl, q⟩, mp_2 (by rw [m0]; exact q), nrm_ne (by decide) (by decide)]
            · rw [if_neg (fun z => q z.2), n0, if_neg (fun z => by omega), if_neg (fun z => c4 z.1), mp_o (Or.inl (by decide)) (Or.inr (by rw [m0]; exact q)) c4, nrm_ne (by decide) (by decide)]
          · rw [if_neg (fun z => c2 z.1), n0, if_neg (fun z => c1 z.1), if_neg (fun z => c4 z.1), mp_o (Or.inl c1) (Or.inl c2) c4, nrm_ne c3 c12]
end MPS
def SRL (N : Int) (e e' : ME) : Prop := e'.1 = e.1 ∧ e'.2.1 = e.2.1 ∧ e'.2.2.1 = e.2.2.1 ∧ (e.1 = 0 → (e'.2.2.2.headD (0, 0)).1 = opN N e.2.2.1 (e.2.2.2.headD (0, 0)).1) ∧ (e.1 = 9 → e'.2.2.2 = mpA N e.2.2.2) ∧ (e.1 = 8 ∨ e.1 = 9 → e.2.1 < 1000)
def SLR (N : Int) : List ME → List ME → Prop
  | [], [] => True
  | e :: S, e' :: S' => SRL N e e' ∧ SLR N S S'
  | _, _ => False
def BDY (N : Int) (f : Int → Int) (m m' : MK) : Prop := (m'.1 = m.1 ∧ m'.n = m.n ∧ 0 ≤ m.n ∧ 0 ≤ m.tmp) ∧ (∀ k, 0 ≤ k → k < m.n → m'.V k = mpI N f (m.V k) ∧ (m.V k 0 = 12 → m.V k 4 < 1000)) ∧ SLR N m.S m'.S
def PRL (N : Int) (m m' : MK) : Prop := m'.pk = m.pk ∧ m'.pv = opN N m.pk m.pv
def DNX (Nf : Int → Int) (f : Int → Int) (m m' : MK) : Prop := m'.fr = m.fr ∧ ∀ q, (m'.dn q).1 = (m.dn q).1 ∧ ∀ k, 0 ≤ k → k < (m.dn q).1 → (m'.dn q).2 k = mpI (Nf q) f ((m.dn q).2 k) ∧ ((m.dn q).2 k 0 = 12 → (m.dn q).2 k 4 < 1000)
section BDYS
variable {N : Int} {f : Int → Int} {m m' : MK} {i i' : It} {e e' : ME} {S S' : List ME} {l g : Int}
theorem SLR.cons (h : SLR N (e :: S) S') : ∃ e' S'', S' = e' :: S'' ∧ SRL N e e' ∧ SLR N S S'' := by
  cases S' with
  | nil => exact absurd h (fun q => q)
  | cons e' S'' => exact ⟨e', S'', rfl, h⟩
theorem SLR.nil (h : SLR N [] S') : S' = [] := by
  cases S' with
  | nil => rfl
  | cons e' S'' => exact absurd h (fun q => q)
theorem srl_id (h0 : e.1 ≠ 0) (h8 : e.1 ≠ 8) (h9 : e.1 ≠ 9) : SRL N e e := ⟨rfl, rfl, rfl, fun q => absurd q h0, fun q => absurd q h9, fun q => by omega⟩
theorem BDY.put (h : BDY N f m m') (e : i' = mpI N f i) (h4 : i 0 = 12 → i 4 < 1000) : BDY N f (m.put i) (m'.put i') := by
  obtain ⟨⟨h1, h2, h3, h5⟩, h6, h7⟩ := h
  refine ⟨⟨h1, show m'.n + 1 = m.n + 1 by omega, show 0 ≤ m.n + 1 by omega, h5⟩, fun k k0 k1 => ?_, h7⟩
  have k1' : k < m.n + 1 := k1
  show uZ m'.V m'.n i' k = mpI N f (uZ m.V m.n i k) ∧ (uZ m.V m.n i k 0 = 12 → uZ m.V m.n i k 4 < 1000)
  by_cases z : k = m.n
  · rw [h2, z, uZ_eq, uZ_eq]; exact ⟨e, h4⟩
  · rw [h2, uZ_ne z, uZ_ne z]; exact h6 k k0 (by omega)
theorem BDY.sS (h : BDY N f m m') (q : SLR N S S') : BDY N f (m.sS S) (m'.sS S') := ⟨h.1, h.2.1, q⟩
theorem BDY.psh (h : BDY N f m m') (q : SRL N e e') : BDY N f (m.push e) (m'.push e') := ⟨h.1, h.2.1, q, h.2.2⟩
theorem BDY.sP {a b c d : Int} (h : BDY N f m m') : BDY N f (m.sP a b) (m'.sP c d) := h
theorem BDY.sL (h : BDY N f m m') : BDY N f (m.sL l) (m'.sL l) := by
  obtain ⟨⟨h1, h2⟩, h3⟩ := h
  refine ⟨⟨?_, h2⟩, h3⟩
  show (m'.rt, m'.ln, m'.fs, l, m'.tmp) = (m.rt, m.ln, m.fs, l, m.tmp)
  unfold MK.rt MK.ln MK.fs MK.tmp
  rw [h1]
theorem BDY.sT (h : BDY N f m m') (hl : 0 ≤ l) : BDY N f (m.sT l) (m'.sT l) := by
  obtain ⟨⟨h1, h2, h3, -⟩, h4⟩ := h
  refine ⟨⟨?_, h2, h3, hl⟩, h4⟩
  show (m'.rt, m'.ln, m'.fs, m'.lab, l) = (m.rt, m.ln, m.fs, m.lab, l)
  unfold MK.rt MK.ln MK.fs MK.lab
  rw [h1]
theorem BDY.stm (h : BDY N f m m') : BDY N f m.stm m'.stm := by
  obtain ⟨⟨h1, h2⟩, h3⟩ := h
  refine ⟨⟨?_, h2⟩, h3⟩
  show (m'.rt, m'.ln + 1, (if m'.fs = 0 then m'.ln + 1 else m'.fs), m'.lab, m'.tmp) = (m.rt, m.ln + 1, (if m.fs = 0 then m.ln + 1 else m.fs), m.lab, m.tmp)
  unfold MK.rt MK.ln MK.fs MK.lab MK.tmp
  rw [h1]
theorem BDY.ln (h : BDY N f m m') : m'.ln = m.ln := by unfold MK.ln; rw [h.1.1]
theorem BDY.lab (h : BDY N f m m') : m'.lab = m.lab := by unfold MK.lab; rw [h.1.1]
theorem BDY.tmp (h : BDY N f m m') : m'.tmp = m.tmp := by unfold MK.tmp; rw [h.1.1]
theorem BDY.rt (h : BDY N f m m') : m'.rt = m.rt := by unfold MK.rt; rw [h.1.1]
theorem BDY.mk (h : BDY N f m m') {k d : Int} (h5 : 5 < k) (h10 : k ≠ 10) (h12 : k ≠ 12) : BDY N f (m.put (mkI k d 0 0 0 0)) (m'.put (mkI k d 0 0 0 0)) := h.put (by rw [mp_mk h5 h10, op_lt (show (0 : Int) < 1000 by decide)]) (fun q => absurd (show k = 12 from q) h12)
theorem BDY.pt (h : BDY N f m m') (p : PRL N m m') {k d : Int} (h5 : 5 < k) (h10 : k ≠ 10) (h12 : k ≠ 12) : BDY N f (m.put (mkI k d 0 m.pk m.pv 0)) (m'.put (mkI k d 0 m'.pk m'.pv 0)) := h.put (by rw [mp_mk h5 h10, p.1, p.2]) (fun q => absurd (show k = 12 from q) h12)
theorem BDY.bd (h : BDY N f m m') (hg : g < 1000) : BDY N f (m.put (bndI g)) (m'.put (bndI g)) := h.put (by unfold bndI; rw [mp_mk (by decide) (by decide), op_lt hg]) (fun _ => hg)
theorem BDY.cp (h : BDY N f m m') (p : PRL N m m') (hg : g < 1000) : BDY N f (m.put (mkI 0 g 0 m.pk m.pv 0)) (m'.put (mkI 0 g 0 m'.pk m'.pv 0)) := h.put (by rw [mp_cp hg, p.1, p.2]) (fun q => absurd (show (0 : Int) = 12 from q) (by decide))
theorem BDY.one {tb : Int → Int} (h : BDY N f m m') (e1 : tb m.rt = N) (D : PRL N m m' ∨ ∃ e S, m.S = e :: S ∧ (e.1 = 1 ∨ e.1 = 11)) : BDY N f (m.one tb1) (m'.one tb) ∧ ((PRL N m m' ∨ PRL N (m.one tb1) (m'.one tb)) → PRL N (m.one tb1) (m'.one tb)) ∧ (∀ e S, m.S = e :: S → (e.1 = 1 ∨ e.1 = 11) → (m.one tb1).S = S) := by
  obtain ⟨h1, h2, h3⟩ := h
  have hB : BDY N f m m' := ⟨h1, h2, h3⟩
  cases hs : m.S with
  | nil =>
    rw [hs] at h3
    have hs' := h3.nil
    have o1 : m.one tb1 = m := by unfold MK.one; rw [hs]
    have o2 : m'.one tb = m' := by unfold MK.one; rw [hs']
    rw [o1, o2]
    exact ⟨hB, fun q => q.elim id id, fun e S q => absurd q (by simp)⟩
  | cons e S =>
    rw [hs] at h3
    obtain ⟨e', S', hs', hr, hl⟩ := h3.cons
    obtain ⟨r1, r2, r3, r4, r5, r6⟩ := hr
    have D' : PRL N m m' ∨ (e.1 = 1 ∨ e.1 = 11) := D.imp id (fun ⟨e9, S9, z1, z2⟩ => by rw [hs] at z1; obtain ⟨z3, z4⟩ := List.cons.inj z1; rw [z3]; exact z2)
    by_cases c0 : e.1 = 0
    · have p : PRL N m m' := D'.elim id (fun q => by omega)
      have o1 : m.one tb1 = (((m.put (it2 (if e.2.1 < 6 then e.2.1 else 5) (1000 + m.tmp) e.2.2.1 ((e.2.2.2.headD (0, 0)).1) m.pk m.pv)).sS S).sP 2 (1000 + m.tmp)).sT (m.tmp + 1) := by unfold MK.one; rw [hs]; exact if_pos c0
      have o2 : m'.one tb = (((m'.put (it2 (if e.2.1 < 6 then e.2.1 else 5) (N + m.tmp) e.2.2.1 (opN N e.2.2.1 (e.2.2.2.headD (0, 0)).1) m'.pk m'.pv)).sS S').sP 2 (N + m.tmp)).sT (m.tmp + 1) := by
        unfold MK.one; rw [hs']
        show (if e'.1 = 0 then (((m'.put (it2 (if e'.2.1 < 6 then e'.2.1 else 5) (tb m'.rt + m'.tmp) e'.2.2.1 ((e'.2.2.2.headD (0, 0)).1) m'.pk m'.pv)).sS S').sP 2 (tb m'.rt + m'.tmp)).sT (m'.tmp + 1) else _) = _
        rw [if_pos (by rw [r1]; exact c0), r2, r3, r4 c0, hB.tmp, hB.rt, e1]
      rw [o1, o2]
      have t0 := h1.2.2.2
      refine ⟨?_, fun _ => ⟨rfl, ?_⟩, fun e9 S9 q z => ?_⟩
      · refine BDY.sT (BDY.sP (BDY.sS (hB.put ?_ (fun q => ?_)) hl)) (by omega)
        · rw [mp_it2 (by split <;> omega), nw_ge t0, p.1, p.2]
        · have q2 : (if e.2.1 < 6 then e.2.1 else 5) = 12 := q
          split at q2 <;> omega
      · show N + m.tmp = opN N 2 (1000 + m.tmp)
        unfold opN; rw [if_pos rfl, nw_ge t0]
      · obtain ⟨z3, -⟩ := List.cons.inj q; rw [← z3] at z; omega
    · have c0' : ¬ e'.1 = 0 := by rw [r1]; exact c0
      by_cases c1 : e.1 = 1
      · have o1 : m.one tb1 = (m.put (mkI 11 m.ln 0 0 0 0)).sS S := by unfold MK.one; rw [hs]; exact (if_neg c0).trans (if_pos c1)
        have o2 : m'.one tb = (m'.put (mkI 11 m.ln 0 0 0 0)).sS S' := by unfold MK.one; rw [hs', ← hB.ln]; exact (if_neg c0').trans (if_pos (by rw [r1]; exact c1))
        rw [o1, o2]
        exact ⟨(hB.mk (by decide) (by decide) (by decide)).sS hl, fun q => q.elim id id, fun e9 S9 q _ => (List.cons.inj q).2⟩
      · have c1' : ¬ e'.1 = 1 := by rw [r1]; exact c1
        by_cases c2 : e.1 = 2
        · have p : PRL N m m' := D'.elim id (fun q => by omega)
          have o1 : m.one tb1 = ((m.put (mkI 9 m.lab 0 m.pk m.pv 0)).sS ((3, m.lab, 0, []) :: S)).sL (m.lab + 1) := by unfold MK.one; rw [hs]; exact ((if_neg c0).trans (if_neg c1)).trans (if_pos c2)
          have o2 : m'.one tb = ((m'.put (mkI 9 m.lab 0 m'.pk m'.pv 0)).sS ((3, m.lab, 0, []) :: S')).sL (m.lab + 1) := by unfold MK.one; rw [hs', ← hB.lab]; exact ((if_neg c0').trans (if_neg c1')).trans (if_pos (by rw [r1]; exact c2))
          rw [o1, o2]
          exact ⟨BDY.sL ((hB.pt p (by decide) (by decide) (by decide)).sS ⟨srl_id (show (3 : Int) ≠ 0 by decide) (show (3 : Int) ≠ 8 by decide) (show (3 : Int) ≠ 9 by decide), hl⟩), fun _ => p, fun e9 S9 q z => by obtain ⟨z3, -⟩ := List.cons.inj q; rw [← z3] at z; omega⟩
        · have c2' : ¬ e'.1 = 2 := by rw [r1]; exact c2
          by_cases c3 : e.1 = 3
          · have o1 : m.one tb1 = (m.put (mkI 13 e.2.1 0 0 0 0)).sS S := by unfold MK.one; rw [hs]; exact (((if_neg c0).trans (if_neg c1)).trans (if_neg c2)).trans (if_pos c3)
            have o2 : m'.one tb = (m'.put (mkI 13 e.2.1 0 0 0 0)).sS S' := by unfold MK.one; rw [hs', ← r2]; exact (((if_neg c0').trans (if_neg c1')).trans (if_neg c2')).trans (if_pos (by rw [r1]; exact c3))
            rw [o1, o2]
            exact ⟨(hB.mk (by decide) (by decide) (by decide)).sS hl, fun q => q.elim id id, fun e9 S9 q z => by obtain ⟨z3, -⟩ := List.cons.inj q; rw [← z3] at z; omega⟩
          · have c3' : ¬ e'.1 = 3 := by rw [r1]; exact c3
            by_cases c6 : e.1 = 6
            · have p : PRL N m m' := D'.elim id (fun q => by omega)
              have o1 : m.one tb1 = ((m.put (mkI 9 m.lab 0 m.pk m.pv 0)).sS ((7, e.2.1, m.lab, []) :: S)).sL (m.lab + 1) := by unfold MK.one; rw [hs]; exact ((((if_neg c0).trans (if_neg c1)).trans (if_neg c2)).trans (if_neg c3)).trans (if_pos c6)
              have o2 : m'.one tb = ((m'.put (mkI 9 m.lab 0 m'.pk m'.pv 0)).sS ((7, e.2.1, m.lab, []) :: S')).sL (m.lab + 1) := by unfold MK.one; rw [hs', ← hB.lab, ← r2]; exact ((((if_neg c0').trans (if_neg c1')).trans (if_neg c2')).trans (if_neg c3')).trans (if_pos (by rw [r1]; exact c6))
              rw [o1, o2]
              exact ⟨BDY.sL ((hB.pt p (by decide) (by decide) (by decide)).sS ⟨srl_id (show (7 : Int) ≠ 0 by decide) (show (7 : Int) ≠ 8 by decide) (show (7 : Int) ≠ 9 by decide), hl⟩), fun _ => p, fun e9 S9 q z => by obtain ⟨z3, -⟩ := List.cons.inj q; rw [← z3] at z; omega⟩
            · have c6' : ¬ e'.1 = 6 := by rw [r1]; exact c6
              by_cases c10 : e.1 = 10
              · have p : PRL N m m' := D'.elim id (fun q => by omega)
                have o1 : m.one tb1 = (m.put (mkI (if e.2.1 = 6 then 6 else 7) 0 0 m.pk m.pv 0)).sS S := by unfold MK.one; rw [hs]; exact (((((if_neg c0).trans (if_neg c1)).trans (if_neg c2)).trans (if_neg c3)).trans (if_neg c6)).trans (if_pos c10)
                have o2 : m'.one tb = (m'.put (mkI (if e.2.1 = 6 then 6 else 7) 0 0 m'.pk m'.pv 0)).sS S' := by unfold MK.one; rw [hs', ← r2]; exact (((((if_neg c0').trans (if_neg c1')).trans (if_neg c2')).trans (if_neg c3')).trans (if_neg c6')).trans (if_pos (by rw [r1]; exact c10))
                rw [o1, o2]
                exact ⟨(hB.pt p (by split <;> decide) (by split <;> decide) (by split <;> decide)).sS hl, fun _ => p, fun e9 S9 q z => by obtain ⟨z3, -⟩ := List.cons.inj q; rw [← z3] at z; omega⟩
              · have c10' : ¬ e'.1 = 10 := by rw [r1]; exact c10
                by_cases c11 : e.1 = 11
                · have o1 : m.one tb1 = (m.put (mkI 7 0 0 1 0 0)).sS S := by unfold MK.one; rw [hs]; exact ((((((if_neg c0).trans (if_neg c1)).trans (if_neg c2)).trans (if_neg c3)).trans (if_neg c6)).trans (if_neg c10)).trans (if_pos c11)
                  have o2 : m'.one tb = (m'.put (mkI 7 0 0 1 0 0)).sS S' := by unfold MK.one; rw [hs']; exact ((((((if_neg c0').trans (if_neg c1')).trans (if_neg c2')).trans (if_neg c3')).trans (if_neg c6')).trans (if_neg c10')).trans (if_pos (by rw [r1]; exact c11))
                  rw [o1, o2]
                  exact ⟨(hB.put (by rw [mp_mk (by decide) (by decide), op_1]) (fun q => absurd (show (7 : Int) = 12 from q) (by decide))).sS hl, fun q => q.elim id id, fun e9 S9 q _ => (List.cons.inj q).2⟩
                · have c11' : ¬ e'.1 = 11 := by rw [r1]; exact c11
                  have o1 : m.one tb1 = m := by unfold MK.one; rw [hs]; exact ((((((if_neg c0).trans (if_neg c1)).trans (if_neg c2)).trans (if_neg c3)).trans (if_neg c6)).trans (if_neg c10)).trans (if_neg c11)
                  have o2 : m'.one tb = m' := by unfold MK.one; rw [hs']; exact ((((((if_neg c0').trans (if_neg c1')).trans (if_neg c2')).trans (if_neg c3')).trans (if_neg c6')).trans (if_neg c10')).trans (if_neg c11')
                  rw [o1, o2]
                  exact ⟨hB, fun q => q.elim id id, fun e9 S9 q z => by obtain ⟨z3, -⟩ := List.cons.inj q; rw [← z3] at z; omega⟩
theorem BDY.two (h : BDY N f m m') (D : PRL N m m' ∨ ∃ e S, m.S = e :: S ∧ e.1 = 5) : BDY N f m.two m'.two := by
  obtain ⟨h1, h2, h3⟩ := h
  have hB : BDY N f m m' := ⟨h1, h2, h3⟩
  cases hs : m.S with
  | nil =>
    rw [hs] at h3
    have hs' := h3.nil
    have o1 : m.two = m := by unfold MK.two; rw [hs]
    have o2 : m'.two = m' := by unfold MK.two; rw [hs']
    rw [o1, o2]; exact hB
  | cons e S =>
    rw [hs] at h3
    obtain ⟨e', S', hs', hr, hl⟩ := h3.cons
    obtain ⟨r1, r2, r3, r4, r5, r6⟩ := hr
    have D' : PRL N m m' ∨ e.1 = 5 := D.imp id (fun ⟨e9, S9, z1, z2⟩ => by rw [hs] at z1; obtain ⟨z3, z4⟩ := List.cons.inj z1; rw [z3]; exact z2)
    by_cases c8 : e.1 = 8
    · have p : PRL N m m' := D'.elim id (fun q => by omega)
      have g8 := r6 (Or.inl c8)
      have o1 : m.two = ((m.put (mkI 0 e.2.1 0 m.pk m.pv 0)).put (bndI e.2.1)).sS S := by unfold MK.two; rw [hs]; exact if_pos c8
      have o2 : m'.two = ((m'.put (mkI 0 e.2.1 0 m'.pk m'.pv 0)).put (bndI e.2.1)).sS S' := by unfold MK.two; rw [hs', ← r2]; exact if_pos (by rw [r1]; exact c8)
      rw [o1, o2]
      exact ((hB.cp p g8).bd g8).sS hl
    · have c8' : ¬ e'.1 = 8 := by rw [r1]; exact c8
      by_cases c5 : e.1 = 5
      · have o1 : m.two = (((m.put (mkI 13 m.lab 0 0 0 0)).put (mkI 11 m.ln 0 0 0 0)).sS ((6, m.lab, 0, []) :: S)).sL (m.lab + 1) := by unfold MK.two; rw [hs]; exact (if_neg c8).trans (if_pos c5)
        have o2 : m'.two = (((m'.put (mkI 13 m.lab 0 0 0 0)).put (mkI 11 m.ln 0 0 0 0)).sS ((6, m.lab, 0, []) :: S')).sL (m.lab + 1) := by unfold MK.two; rw [hs', ← hB.lab, ← hB.ln]; exact (if_neg c8').trans (if_pos (by rw [r1]; exact c5))
        rw [o1, o2]
        exact BDY.sL (((hB.mk (by decide) (by decide) (by decide)).mk (by decide) (by decide) (by decide)).sS ⟨srl_id (show (6 : Int) ≠ 0 by decide) (show (6 : Int) ≠ 8 by decide) (show (6 : Int) ≠ 9 by decide), hl⟩)
      · have c5' : ¬ e'.1 = 5 := by rw [r1]; exact c5
        by_cases c4 : e.1 = 4
        · have o1 : m.two = (((m.put (mkI 8 m.lab 0 0 0 0)).put (mkI 13 e.2.1 0 0 0 0)).sS ((3, m.lab, 0, []) :: S)).sL (m.lab + 1) := by unfold MK.two; rw [hs]; exact ((if_neg c8).trans (if_neg c5)).trans (if_pos c4)
          have o2 : m'.two = (((m'.put (mkI 8 m.lab 0 0 0 0)).put (mkI 13 e.2.1 0 0 0 0)).sS ((3, m.lab, 0, []) :: S')).sL (m.lab + 1) := by unfold MK.two; rw [hs', ← hB.lab, ← r2]; exact ((if_neg c8').trans (if_neg c5')).trans (if_pos (by rw [r1]; exact c4))
          rw [o1, o2]
          exact BDY.sL (((hB.mk (by decide) (by decide) (by decide)).mk (by decide) (by decide) (by decide)).sS ⟨srl_id (show (3 : Int) ≠ 0 by decide) (show (3 : Int) ≠ 8 by decide) (show (3 : Int) ≠ 9 by decide), hl⟩)
        · have c4' : ¬ e'.1 = 4 := by rw [r1]; exact c4
          by_cases c7 : e.1 = 7
          · have o1 : m.two = ((m.put (mkI 8 e.2.1 0 0 0 0)).put (mkI 13 e.2.2.1 0 0 0 0)).sS S := by unfold MK.two; rw [hs]; exact (((if_neg c8).trans (if_neg c5)).trans (if_neg c4)).trans (if_pos c7)
            have o2 : m'.two = ((m'.put (mkI 8 e.2.1 0 0 0 0)).put (mkI 13 e.2.2.1 0 0 0 0)).sS S' := by unfold MK.two; rw [hs', ← r2, ← r3]; exact (((if_neg c8').trans (if_neg c5')).trans (if_neg c4')).trans (if_pos (by rw [r1]; exact c7))
            rw [o1, o2]
            exact ((hB.mk (by decide) (by decide) (by decide)).mk (by decide) (by decide) (by decide)).sS hl
          · have c7' : ¬ e'.1 = 7 := by rw [r1]; exact c7
            have o1 : m.two = m := by unfold MK.two; rw [hs]; exact (((if_neg c8).trans (if_neg c5)).trans (if_neg c4)).trans (if_neg c7)
            have o2 : m'.two = m' := by unfold MK.two; rw [hs']; exact (((if_neg c8').trans (if_neg c5')).trans (if_neg c4')).trans (if_neg c7')
            rw [o1, o2]; exact hB
theorem BDY.cal {rn : Int64 → Int} {w : Int64} (h : BDY N f m m') : BDY N f (m.cal rn w) (m'.cal (fun w => f (rn w)) w) := by
  obtain ⟨h1, h2, h3⟩ := h
  have hB : BDY N f m m' := ⟨h1, h2, h3⟩
  cases hs : m.S with
  | nil =>
    rw [hs] at h3
    have hs' := h3.nil
    have o1 : m.cal rn w = m := by unfold MK.cal; rw [hs]
    have o2 : m'.cal (fun w => f (rn w)) w = m' := by unfold MK.cal; rw [hs']
    rw [o1, o2]; exact hB
  | cons e S =>
    rw [hs] at h3
    obtain ⟨e', S', hs', hr, hl⟩ := h3.cons
    obtain ⟨r1, r2, r3, r4, r5, r6⟩ := hr
    by_cases c9 : e.1 = 9
    · have g9 := r6 (Or.inr c9)
      have o1 : m.cal rn w = ((m.put (itC e.2.1 (rn w) e.2.2.2)).put (bndI e.2.1)).sS S := by unfold MK.cal; rw [hs]; exact if_pos c9
      have o2 : m'.cal (fun w => f (rn w)) w = ((m'.put (itC e.2.1 (f (rn w)) (mpA N e.2.2.2))).put (bndI e.2.1)).sS S' := by unfold MK.cal; rw [hs', ← r2, ← r5 c9]; exact if_pos (by rw [r1]; exact c9)
      rw [o1, o2]
      exact (BDY.bd (hB.put (by rw [mp_itC g9]) (fun q => absurd (show (10 : Int) = 12 from q) (by decide))) g9).sS hl
    · have c9' : ¬ e'.1 = 9 := by rw [r1]; exact c9
      have o1 : m.cal rn w = m := by unfold MK.cal; rw [hs]; exact if_neg c9
      have o2 : m'.cal (fun w => f (rn w)) w = m' := by unfold MK.cal; rw [hs']; exact if_neg c9'
      rw [o1, o2]; exact hB
end BDYS
abbrev ZT : List Nat := [29, 51, 34, 36]
def T11 (S : List ME) : Prop := ∃ e S', S = e :: S' ∧ e.1 = 11
def DBB (k : Nat) (K : List Nat) : Prop := (k = 28 ∧ K = [51, 34, 36]) ∨ (k = 223 ∧ K = ZT) ∨ (k = 29 ∧ K = [51, 34, 36]) ∨ (k = 40 ∧ K = [51, 34, 36]) ∨ (k = 51 ∧ K = [34, 36]) ∨ ((k = 20 ∨ k = 22 ∨ k = 21 ∨ k = 39 ∨ k = 23 ∨ k = 159) ∧ K = ZT) ∨ (k = 141 ∧ K = 159 :: ZT)
def DCC (e : Int) (k : Nat) (K : List Nat) : Prop := (e = 1 ∧ k = 51 ∧ (K = 21 :: ZT ∨ K = 39 :: ZT ∨ K = 23 :: ZT)) ∨ (e = 8 ∧ ((k = 161 ∧ K = 25 :: ZT) ∨ (k = 25 ∧ K = ZT))) ∨ (e = 9 ∧ ((k = 26 ∧ K = 159 :: ZT) ∨ (k = 38 ∧ K = 141 :: 159 :: ZT)))
def DIR : List Nat → List ME → Prop
  | [], _ => False
  | k :: K, S => k ≤ 4 ∨ k = 34 ∨ (T11 S ∧ DBB k K) ∨ ∃ e S', S = e :: S' ∧ ((e.1 = 5 ∧ k = 52 ∧ K = 2 :: 51 :: 28 :: 52 :: ZT) ∨ (T11 S' ∧ DCC e.1 k K))
section DIRS
variable {k : Nat} {K : List Nat} {S : List ME}
theorem DIR.no (h : DIR (k :: K) S) (h1 : k = 6 ∨ k = 7 ∨ k = 8 ∨ k = 9 ∨ k = 27 ∨ k = 24) : False := by
  rcases h with h | h | ⟨_, h⟩ | ⟨e, S', _, ⟨_, h, _⟩ | ⟨_, h⟩⟩
  · omega
  · omega
  · unfold DBB at h; omega
  · omega
  · unfold DCC at h; omega
theorem DIR.sml (h : k ≤ 4) : DIR (k :: K) S := Or.inl h
theorem DIR.bb (h : T11 S) (g : DBB k K) : DIR (k :: K) S := Or.inr (Or.inr (Or.inl ⟨h, g⟩))
theorem DIR.cc {e : ME} {S' : List ME} (hS : S = e :: S') (h : T11 S') (g : DCC e.1 k K) : DIR (k :: K) S := Or.inr (Or.inr (Or.inr ⟨e, S', hS, Or.inr ⟨h, g⟩⟩))
theorem DIR.b51 (h : DIR (51 :: K) S) : ∃ e S', S = e :: S' ∧ ((e.1 = 11 ∧ K = [34, 36]) ∨ (e.1 = 1 ∧ T11 S' ∧ (K = 21 :: ZT ∨ K = 39 :: ZT ∨ K = 23 :: ZT))) := by
  rcases h with h | h | ⟨⟨e, S', h1, h2⟩, h⟩ | ⟨e, S', h1, ⟨_, h, _⟩ | ⟨h2, h⟩⟩
  · omega
  · omega
  · refine ⟨e, S', h1, Or.inl ⟨h2, ?_⟩⟩
    unfold DBB at h
    rcases h with h | h | h | h | h | h | h
    · omega
    · omega
    · omega
    · omega
    · exact h.2
    · omega
    · omega
  · omega
  · refine ⟨e, S', h1, Or.inr ?_⟩
    unfold DCC at h
    rcases h with ⟨a, _, b⟩ | ⟨_, ⟨a, _⟩ | ⟨a, _⟩⟩ | ⟨_, ⟨a, _⟩ | ⟨a, _⟩⟩
    · exact ⟨a, h2, b⟩
    · omega
    · omega
    · omega
    · omega
theorem DIR.b52 (h : DIR (52 :: K) S) : ∃ e S', S = e :: S' ∧ e.1 = 5 ∧ K = 2 :: 51 :: 28 :: 52 :: ZT := by
  rcases h with h | h | ⟨_, h⟩ | ⟨e, S', h1, ⟨h2, _, h⟩ | ⟨_, h⟩⟩
  · omega
  · omega
  · unfold DBB at h; omega
  · exact ⟨e, S', h1, h2, h⟩
  · unfold DCC at h; omega
theorem DIR.bZ (h : DIR (k :: K) S) (hk : k = 20 ∨ k = 21 ∨ k = 22 ∨ k = 23 ∨ k = 39 ∨ k = 159 ∨ k = 223) : T11 S ∧ K = ZT := by
  rcases h with h | h | ⟨h1, h⟩ | ⟨e, S', h1, ⟨_, h, _⟩ | ⟨_, h⟩⟩
  · omega
  · omega
  · refine ⟨h1, ?_⟩
    unfold DBB at h
    rcases h with h | h | h | h | h | h | h
    · omega
    · exact h.2
    · omega
    · omega
    · omega
    · exact h.2
    · omega
  · omega
  · unfold DCC at h; omega
theorem DIR.bR (h : DIR (k :: K) S) (hk : k = 28 ∨ k = 29 ∨ k = 40) : T11 S ∧ K = [51, 34, 36] := by
  rcases h with h | h | ⟨h1, h⟩ | ⟨e, S', h1, ⟨_, h, _⟩ | ⟨_, h⟩⟩
  · omega
  · omega
  · refine ⟨h1, ?_⟩
    unfold DBB at h
    rcases h with h | h | h | h | h | h | h
    · exact h.2
    · omega
    · exact h.2
    · exact h.2
    · omega
    · omega
    · omega
  · omega
  · unfold DCC at h; omega
theorem DIR.b141 (h : DIR (141 :: K) S) : T11 S ∧ K = 159 :: ZT := by
  rcases h with h | h | ⟨h1, h⟩ | ⟨e, S', h1, ⟨_, h, _⟩ | ⟨_, h⟩⟩
  · omega
  · omega
  · refine ⟨h1, ?_⟩
    unfold DBB at h
    rcases h with h | h | h | h | h | h | h
    · omega
    · omega
    · omega
    · omega
    · omega
    · omega
    · exact h.2
  · omega
  · unfold DCC at h; omega
theorem DIR.b8 (h : DIR (k :: K) S) (hk : k = 161 ∨ k = 25 ∨ k = 26 ∨ k = 38) : ∃ e S', S = e :: S' ∧ T11 S' ∧ ((k = 161 ∧ e.1 = 8 ∧ K = 25 :: ZT) ∨ (k = 25 ∧ e.1 = 8 ∧ K = ZT) ∨ (k = 26 ∧ e.1 = 9 ∧ K = 159 :: ZT) ∨ (k = 38 ∧ e.1 = 9 ∧ K = 141 :: 159 :: ZT)) := by
  rcases h with h | h | ⟨h1, h⟩ | ⟨e, S', h1, ⟨_, h, _⟩ | ⟨h2, h⟩⟩
  · omega
  · omega
  · unfold DBB at h; omega
  · omega
  · refine ⟨e, S', h1, h2, ?_⟩
    unfold DCC at h
    rcases h with ⟨_, a, _⟩ | ⟨c, ⟨a, b⟩ | ⟨a, b⟩⟩ | ⟨c, ⟨a, b⟩ | ⟨a, b⟩⟩
    · omega
    · exact Or.inl ⟨a, c, b⟩
    · exact Or.inr (Or.inl ⟨a, c, b⟩)
    · exact Or.inr (Or.inr (Or.inl ⟨a, c, b⟩))
    · exact Or.inr (Or.inr (Or.inr ⟨a, c, b⟩))
end DIRS
section STB
variable {N : Int} {f : Int → Int} {m m' : MK} {s : Int → Int} {nm : Int → Int64 → Int} {rn : Int64 → Int} {tb Nf : Int → Int} {k : Nat} {K : List Nat} {t : TK} {x : Int × Int × Int} {q : QR} {r : List Nat × TK × (Int × Int × Int) × QR × List EV} {w : Int64}
theorem one_q : (m.one tb).2.2.2.2 = m.2.2.2.2 ∧ (m.one tb).rt = m.rt := by
  unfold MK.one
  split
  · exact ⟨rfl, rfl⟩
  · repeat' split
    all_goals exact ⟨rfl, rfl⟩
theorem two_q : m.two.2.2.2.2 = m.2.2.2.2 ∧ m.two.rt = m.rt ∧ m.two.2.2.1 = m.2.2.1 := by
  unfold MK.two
  split
  · exact ⟨rfl, rfl, rfl⟩
  · repeat' split
    all_goals exact ⟨rfl, rfl, rfl⟩
theorem cal_q : (m.cal rn w).2.2.2.2 = m.2.2.2.2 ∧ (m.cal rn w).rt = m.rt ∧ (m.cal rn w).2.2.1 = m.2.2.1 := by
  unfold MK.cal
  split
  · exact ⟨rfl, rfl, rfl⟩
  · split
    · exact ⟨rfl, rfl, rfl⟩
    · exact ⟨rfl, rfl, rfl⟩
theorem top_q {g : ME → ME} : (m.top g).2.2.2.2 = m.2.2.2.2 ∧ (m.top g).rt = m.rt ∧ (m.top g).2.2.1 = m.2.2.1 := by
  unfold MK.top
  split
  · exact ⟨rfl, rfl, rfl⟩
  · exact ⟨rfl, rfl, rfl⟩
theorem top_S {g : ME → ME} {e : ME} {S : List ME} (h : m.S = e :: S) : (m.top g).S = g e :: S := by
  unfold MK.top
  rw [h]
  rfl
theorem cal_S {e : ME} {S : List ME} (h : m.S = e :: S) (h9 : e.1 = 9) : (m.cal rn w).S = S := by
  unfold MK.cal
  rw [h]
  exact congrArg MK.S (if_pos h9)
theorem BDY.top {g g' : ME → ME} (h : BDY N f m m') (hg : ∀ e e', SRL N e e' → SRL N (g e) (g' e')) : BDY N f (m.top g) (m'.top g') := by
  obtain ⟨h1, h2, h3⟩ := h
  cases hs : m.S with
  | nil =>
    rw [hs] at h3
    have o1 : m.top g = m := by unfold MK.top; rw [hs]
    have o2 : m'.top g' = m' := by unfold MK.top; rw [h3.nil]
    rw [o1, o2]; exact ⟨h1, h2, by rw [hs]; exact h3⟩
  | cons e S =>
    rw [hs] at h3
    obtain ⟨e', S', hs', hr, hl⟩ := h3.cons
    have o1 : m.top g = m.sS (g e :: S) := by unfold MK.top; rw [hs]
    have o2 : m'.top g' = m'.sS (g' e' :: S') := by unfold MK.top; rw [hs']
    rw [o1, o2]
    exact ⟨h1, h2, hg e e' hr, hl⟩
theorem mkk_df (h : ¬ (k = 0 ∨ k = 1 ∨ k = 6 ∨ k = 8 ∨ k = 9 ∨ k = 20 ∨ k = 21 ∨ k = 22 ∨ k = 23 ∨ k = 24 ∨ k = 25 ∨ k = 27 ∨ k = 34 ∨ k = 35 ∨ k = 38 ∨ k = 39 ∨ k = 51 ∨ k = 52)) : mkk s nm rn tb k t q m = m := by
  unfold mkk
  split
  all_goals first
    | rfl
    | (exfalso; apply h; decide)
def PDR (N : Int) (K : List Nat) (m m' : MK) : Prop := PRL N m m' ∨ DIR K m.S
def SBQ (N : Int) (f : Int → Int) (K : List Nat) (m m' M M' : MK) : Prop := BDY N f M M' ∧ PDR N K M M' ∧ M.rt = m.rt ∧ M.2.2.2.2 = m.2.2.2.2 ∧ M'.2.2.2.2 = m'.2.2.2.2
theorem SBQ.same (hB : BDY N f m m') (h : PDR N K m m') : SBQ N f K m m' m m' := ⟨hB, h, rfl, rfl, rfl⟩
theorem DIR.oth {S : List ME} (h : DIR (k :: K) S) : k ≤ 4 ∨ k = 34 ∨ k = 28 ∨ k = 29 ∨ k = 40 ∨ k = 51 ∨ k = 20 ∨ k = 21 ∨ k = 22 ∨ k = 23 ∨ k = 39 ∨ k = 159 ∨ k = 223 ∨ k = 141 ∨ k = 52 ∨ k = 161 ∨ k = 25 ∨ k = 26 ∨ k = 38 := by
  rcases h with h | h | ⟨h1, h⟩ | ⟨e, S', h1, ⟨_, h, _⟩ | ⟨_, h⟩⟩
  · omega
  · omega
  · unfold DBB at h; omega
  · omega
  · unfold DCC at h; omega
theorem BDY.step (hnm : ∀ r w, nm r w < 1000) (hk : NTg k) (hB : BDY N f m m') (hN : Nf m.rt = N) (D : PDR N (k :: K) m m') (hs : stk s k t x q = some r) : SBQ N f (r.1 ++ K) m m' (mkk s nm rn tb1 k t q m) (mkk s nm (fun w => f (rn w)) Nf k t q m') := by
  have rt' := hB.rt
  by_cases k0 : k = 0
  · subst k0
    by_cases z : sgn t 45
    · have e1 : mkk s nm rn tb1 0 t q m = m.push (0, 2, 1, [(0, 0)]) := if_pos z
      have e2 : mkk s nm (fun w => f (rn w)) Nf 0 t q m' = m'.push (0, 2, 1, [(0, 0)]) := if_pos z
      obtain rfl := Option.some.inj (hs.symm.trans (if_pos z))
      rw [e1, e2]
      exact ⟨hB.psh ⟨rfl, rfl, rfl, fun _ => op_1.symm, fun y => absurd y (by decide), fun y => by rcases y with y | y <;> exact absurd y (by decide)⟩, Or.inr (DIR.sml (show 1 ≤ 4 by decide)), rfl, rfl, rfl⟩
    · have e1 : mkk s nm rn tb1 0 t q m = m := if_neg z
      have e2 : mkk s nm (fun w => f (rn w)) Nf 0 t q m' = m' := if_neg z
      obtain rfl := Option.some.inj (hs.symm.trans (if_neg z))
      rw [e1, e2]
      exact SBQ.same hB (Or.inr (DIR.sml (show 1 ≤ 4 by decide)))
  by_cases k1 : k = 1
  · subst k1
    by_cases z : t.2.2.1 = 3
    · have e1 : mkk s nm rn tb1 1 t q m = m.sP 1 t.2.2.2.1 := if_pos z
      have e2 : mkk s nm (fun w => f (rn w)) Nf 1 t q m' = m'.sP 1 t.2.2.2.1 := if_pos z
      rw [e1, e2]
      exact ⟨hB.sP, Or.inl ⟨rfl, op_1.symm⟩, rfl, rfl, rfl⟩
    · by_cases y : nam t
      · have e1 : mkk s nm rn tb1 1 t q m = m.sP 2 (nm m.rt t.2.2.2.2) := (if_neg z).trans (if_pos y)
        have e2 : mkk s nm (fun w => f (rn w)) Nf 1 t q m' = m'.sP 2 (nm m.rt t.2.2.2.2) := ((if_neg z).trans (if_pos y)).trans (by rw [rt'])
        rw [e1, e2]
        exact ⟨hB.sP, Or.inl ⟨rfl, (op_lt (hnm _ _)).symm⟩, rfl, rfl, rfl⟩
      · have e1 : mkk s nm rn tb1 1 t q m = m := (if_neg z).trans (if_neg y)
        have e2 : mkk s nm (fun w => f (rn w)) Nf 1 t q m' = m' := (if_neg z).trans (if_neg y)
        have h2 := hs.symm.trans (if_neg (fun u => by rcases u with u | u; exact z u; exact y u))
        by_cases u : sgn t 40
        · obtain rfl := Option.some.inj (h2.trans (if_pos u))
          rw [e1, e2]
          exact SBQ.same hB (Or.inr (DIR.sml (show 2 ≤ 4 by decide)))
        · exact absurd (h2.trans (if_neg u)) (by simp)
  by_cases k2 : k = 2
  · subst k2
    rw [mkk_df (by decide), mkk_df (by decide)]
    by_cases u : x.1 = 8
    · exact absurd (hs.symm.trans (if_pos u)) (by simp)
    · obtain rfl := Option.some.inj (hs.symm.trans (if_neg u))
      exact SBQ.same hB (Or.inr (DIR.sml (show 3 ≤ 4 by decide)))
  by_cases k3 : k = 3
  · subst k3
    rw [mkk_df (by decide), mkk_df (by decide)]
    obtain rfl := Option.some.inj (hs.symm.trans rfl)
    exact SBQ.same hB (Or.inr (DIR.sml (show 4 ≤ 4 by decide)))
  by_cases k4 : k = 4
  · subst k4
    rw [mkk_df (by decide), mkk_df (by decide)]
    obtain rfl := Option.some.inj (hs.symm.trans rfl)
    exact SBQ.same hB (Or.inr (DIR.sml (show 0 ≤ 4 by decide)))
  have srl0 : ∀ o : Int, PRL N m m' → SRL N (0, o, m.pk, [(m.pv, 0)]) (0, o, m'.pk, [(m'.pv, 0)]) := fun o p => ⟨rfl, rfl, p.1, fun _ => p.2, fun y => absurd (show (0 : Int) = 9 from y) (by decide), fun y => by rcases y with y | y; exact absurd (show (0 : Int) = 8 from y) (by decide); exact absurd (show (0 : Int) = 9 from y) (by decide)⟩
  by_cases k6 : k = 6
  · subst k6
    have p : PRL N m m' := D.elim id (fun d => (d.no (by decide)).elim)
    by_cases z : sgn t 61
    · have e1 : mkk s nm rn tb1 6 t q m = m.push (0, 4, m.pk, [(m.pv, 0)]) := if_pos z
      have e2 : mkk s nm (fun w => f (rn w)) Nf 6 t q m' = m'.push (0, 4, m'.pk, [(m'.pv, 0)]) := if_pos z
      rw [e1, e2]; exact ⟨hB.psh (srl0 4 p), Or.inl p, rfl, rfl, rfl⟩
    · by_cases y : sgn t 60
      · have e1 : mkk s nm rn tb1 6 t q m = m.push (0, 5, m.pk, [(m.pv, 0)]) := (if_neg z).trans (if_pos y)
        have e2 : mkk s nm (fun w => f (rn w)) Nf 6 t q m' = m'.push (0, 5, m'.pk, [(m'.pv, 0)]) := (if_neg z).trans (if_pos y)
        rw [e1, e2]; exact ⟨hB.psh (srl0 5 p), Or.inl p, rfl, rfl, rfl⟩
      · have e1 : mkk s nm rn tb1 6 t q m = m := (if_neg z).trans (if_neg y)
        have e2 : mkk s nm (fun w => f (rn w)) Nf 6 t q m' = m' := (if_neg z).trans (if_neg y)
        rw [e1, e2]; exact SBQ.same hB (Or.inl p)
  by_cases k8 : k = 8
  · subst k8
    have p : PRL N m m' := D.elim id (fun d => (d.no (by decide)).elim)
    by_cases z : sgn t 43
    · have e1 : mkk s nm rn tb1 8 t q m = m.push (0, 1, m.pk, [(m.pv, 0)]) := if_pos z
      have e2 : mkk s nm (fun w => f (rn w)) Nf 8 t q m' = m'.push (0, 1, m'.pk, [(m'.pv, 0)]) := if_pos z
      rw [e1, e2]; exact ⟨hB.psh (srl0 1 p), Or.inl p, rfl, rfl, rfl⟩
    · by_cases y : sgn t 45
      · have e1 : mkk s nm rn tb1 8 t q m = m.push (0, 2, m.pk, [(m.pv, 0)]) := (if_neg z).trans (if_pos y)
        have e2 : mkk s nm (fun w => f (rn w)) Nf 8 t q m' = m'.push (0, 2, m'.pk, [(m'.pv, 0)]) := (if_neg z).trans (if_pos y)
        rw [e1, e2]; exact ⟨hB.psh (srl0 2 p), Or.inl p, rfl, rfl, rfl⟩
      · have e1 : mkk s nm rn tb1 8 t q m = m := (if_neg z).trans (if_neg y)
        have e2 : mkk s nm (fun w => f (rn w)) Nf 8 t q m' = m' := (if_neg z).trans (if_neg y)
        rw [e1, e2]; exact SBQ.same hB (Or.inl p)
  by_cases k9 : k = 9
  · subst k9
    have p : PRL N m m' := D.elim id (fun d => (d.no (by decide)).elim)
    by_cases z : sgn t 42
    · have e1 : mkk s nm rn tb1 9 t q m = m.push (0, 3, m.pk, [(m.pv, 0)]) := if_pos z
      have e2 : mkk s nm (fun w => f (rn w)) Nf 9 t q m' = m'.push (0, 3, m'.pk, [(m'.pv, 0)]) := if_pos z
      rw [e1, e2]; exact ⟨hB.psh (srl0 3 p), Or.inl p, rfl, rfl, rfl⟩
    · have e1 : mkk s nm rn tb1 9 t q m = m := if_neg z
      have e2 : mkk s nm (fun w => f (rn w)) Nf 9 t q m' = m' := if_neg z
      rw [e1, e2]; exact SBQ.same hB (Or.inl p)
  by_cases k20 : k = 20
  · subst k20
    by_cases z : wrd t 512852847717
    · have e1 : mkk s nm rn tb1 20 t q m = m.stm := if_pos z
      have e2 : mkk s nm (fun w => f (rn w)) Nf 20 t q m' = m'.stm := if_pos z
      obtain rfl := Option.some.inj (hs.symm.trans (if_pos z))
      rw [e1, e2]
      refine ⟨hB.stm, D.imp id (fun d => ?_), rfl, rfl, rfl⟩
      obtain ⟨d1, d2⟩ := d.bZ (by decide)
      rw [d2]
      exact DIR.bb d1 (Or.inr (Or.inr (Or.inr (Or.inr (Or.inr (Or.inl ⟨by decide, rfl⟩))))))
    · have e1 : mkk s nm rn tb1 20 t q m = m.stm.push (1, 0, 0, []) := if_neg z
      have e2 : mkk s nm (fun w => f (rn w)) Nf 20 t q m' = m'.stm.push (1, 0, 0, []) := if_neg z
      rw [e1, e2]
      refine ⟨(hB.stm).psh (srl_id (show (1 : Int) ≠ 0 by decide) (show (1 : Int) ≠ 8 by decide) (show (1 : Int) ≠ 9 by decide)), D.imp id (fun d => ?_), rfl, rfl, rfl⟩
      obtain ⟨d1, d2⟩ := d.bZ (by decide)
      have h2 := hs.symm.trans (if_neg z)
      rw [d2]
      by_cases y1 : wrd t 26982
      · obtain rfl := Option.some.inj (h2.trans (if_pos y1))
        exact DIR.cc (e := (1, 0, 0, [])) (S' := m.S) rfl d1 (Or.inl ⟨rfl, rfl, Or.inl rfl⟩)
      · have h3 := h2.trans (if_neg y1)
        by_cases y2 : wrd t 7304564 ∨ wrd t 125780071117422
        · obtain rfl := Option.some.inj (h3.trans (if_pos y2))
          exact DIR.cc (e := (1, 0, 0, [])) (S' := m.S) rfl d1 (Or.inl ⟨rfl, rfl, Or.inr (Or.inl rfl)⟩)
        · have h4 := h3.trans (if_neg y2)
          by_cases y3 : nam t
          · obtain rfl := Option.some.inj (h4.trans (if_pos y3))
            exact DIR.cc (e := (1, 0, 0, [])) (S' := m.S) rfl d1 (Or.inl ⟨rfl, rfl, Or.inr (Or.inr rfl)⟩)
          · exact absurd (h4.trans (if_neg y3)) (by simp)
  by_cases k21 : k = 21
  · subst k21
    obtain rfl := Option.some.inj (hs.symm.trans rfl)
    exact ⟨hB.psh (e := (2, 0, 0, [])) (e' := (2, 0, 0, [])) (srl_id (show (2 : Int) ≠ 0 by decide) (show (2 : Int) ≠ 8 by decide) (show (2 : Int) ≠ 9 by decide)), Or.inr (DIR.sml (show 2 ≤ 4 by decide)), rfl, rfl, rfl⟩
  by_cases k22 : k = 22
  · subst k22
    obtain rfl := Option.some.inj (hs.symm.trans rfl)
    refine ⟨hB.psh (e := (5, 0, 0, [])) (e' := (5, 0, 0, [])) (srl_id (show (5 : Int) ≠ 0 by decide) (show (5 : Int) ≠ 8 by decide) (show (5 : Int) ≠ 9 by decide)), D.imp id (fun d => ?_), rfl, rfl, rfl⟩
    obtain ⟨d1, d2⟩ := d.bZ (by decide)
    rw [d2]
    exact Or.inr (Or.inr (Or.inr ⟨(5, 0, 0, []), m.S, rfl, Or.inl ⟨rfl, rfl, rfl⟩⟩))
  by_cases k23 : k = 23
  · subst k23
    have e1 : mkk s nm rn tb1 23 t q m = m.push (8, nm m.rt t.2.2.2.2, 0, []) := rfl
    have e2 : mkk s nm (fun w => f (rn w)) Nf 23 t q m' = m'.push (8, nm m.rt t.2.2.2.2, 0, []) := by rw [← rt']; rfl
    obtain rfl := Option.some.inj (hs.symm.trans rfl)
    rw [e1, e2]
    refine ⟨hB.psh ⟨rfl, rfl, rfl, fun y => absurd (show (8 : Int) = 0 from y) (by decide), fun y => absurd (show (8 : Int) = 9 from y) (by decide), fun _ => hnm _ _⟩, D.imp id (fun d => ?_), rfl, rfl, rfl⟩
    obtain ⟨d1, d2⟩ := d.bZ (by decide)
    rw [d2]
    exact DIR.cc (e := (8, nm m.rt t.2.2.2.2, 0, [])) (S' := m.S) rfl d1 (Or.inr (Or.inl ⟨rfl, Or.inl ⟨rfl, rfl⟩⟩))
  by_cases k24 : k = 24
  · subst k24
    have p : PRL N m m' := D.elim id (fun d => (d.no (by decide)).elim)
    by_cases z : wrd t 1701606245
    · have e1 : mkk s nm rn tb1 24 t q m = m.top (fun e => if e.1 = 3 then (4, e.2.1, 0, []) else e) := if_pos z
      have e2 : mkk s nm (fun w => f (rn w)) Nf 24 t q m' = m'.top (fun e => if e.1 = 3 then (4, e.2.1, 0, []) else e) := if_pos z
      rw [e1, e2]
      refine ⟨hB.top (fun e e' g => ?_), Or.inl ⟨?_, ?_⟩, top_q.2.1, top_q.1, top_q.1⟩
      · by_cases c : e.1 = 3
        · rw [if_pos c, if_pos (show e'.1 = 3 by rw [g.1]; exact c), g.2.1]
          exact srl_id (show (4 : Int) ≠ 0 by decide) (show (4 : Int) ≠ 8 by decide) (show (4 : Int) ≠ 9 by decide)
        · rw [if_neg c, if_neg (show ¬ e'.1 = 3 by rw [g.1]; exact c)]; exact g
      · unfold MK.pk; rw [top_q.2.2, top_q.2.2]; exact p.1
      · unfold MK.pk MK.pv; rw [top_q.2.2, top_q.2.2]; exact p.2
    · have e1 : mkk s nm rn tb1 24 t q m = m := if_neg z
      have e2 : mkk s nm (fun w => f (rn w)) Nf 24 t q m' = m' := if_neg z
      rw [e1, e2]; exact SBQ.same hB (Or.inl p)
  by_cases k25 : k = 25
  · subst k25
    by_cases z : nam t ∧ sgn (advT s t.2.1) 40
    · have e1 : mkk s nm rn tb1 25 t q m = m.top (fun e => if e.1 = 8 then (9, e.2.1, 0, []) else e) := if_pos z
      have e2 : mkk s nm (fun w => f (rn w)) Nf 25 t q m' = m'.top (fun e => if e.1 = 8 then (9, e.2.1, 0, []) else e) := if_pos z
      obtain rfl := Option.some.inj (hs.symm.trans ((if_pos z.1).trans (if_pos z.2)))
      rw [e1, e2]
      refine ⟨hB.top (fun e e' g => ?_), ?_, top_q.2.1, top_q.1, top_q.1⟩
      · by_cases c : e.1 = 8
        · rw [if_pos c, if_pos (show e'.1 = 8 by rw [g.1]; exact c), g.2.1]
          exact ⟨rfl, rfl, rfl, fun y => absurd (show (9 : Int) = 0 from y) (by decide), fun _ => rfl, fun _ => g.2.2.2.2.2 (Or.inl c)⟩
        · rw [if_neg c, if_neg (show ¬ e'.1 = 8 by rw [g.1]; exact c)]; exact g
      · rcases D with p | d
        · exact Or.inl ⟨by unfold MK.pk; rw [top_q.2.2, top_q.2.2]; exact p.1, by unfold MK.pk MK.pv; rw [top_q.2.2, top_q.2.2]; exact p.2⟩
        · obtain ⟨e, S', d1, d2, d3⟩ := d.b8 (by decide)
          rcases d3 with d3 | d3 | d3 | d3
          · exact absurd d3.1 (by decide)
          · rw [d3.2.2]
            exact Or.inr (DIR.cc (e := (9, e.2.1, 0, [])) (S' := S') (by rw [top_S d1, if_pos d3.2.1]) d2 (Or.inr (Or.inr ⟨rfl, Or.inl ⟨rfl, rfl⟩⟩)))
          · exact absurd d3.1 (by decide)
          · exact absurd d3.1 (by decide)
    · have e1 : mkk s nm rn tb1 25 t q m = m := if_neg z
      have e2 : mkk s nm (fun w => f (rn w)) Nf 25 t q m' = m' := if_neg z
      rw [e1, e2]
      refine SBQ.same hB (Or.inr ?_)
      by_cases y : nam t
      · obtain rfl := Option.some.inj (hs.symm.trans ((if_pos y).trans (if_neg (fun u => z ⟨y, u⟩))))
        exact DIR.sml (show 2 ≤ 4 by decide)
      · obtain rfl := Option.some.inj (hs.symm.trans (if_neg y))
        exact DIR.sml (show 2 ≤ 4 by decide)
  by_cases k26 : k = 26
  · subst k26
    rw [mkk_df (by decide), mkk_df (by decide)]
    by_cases z : sgn (advT s t.2.1) 41
    · obtain rfl := Option.some.inj (hs.symm.trans (if_pos z))
      refine SBQ.same hB (D.imp id (fun d => ?_))
      obtain ⟨e, S', d1, d2, d3⟩ := d.b8 (by decide)
      rcases d3 with d3 | d3 | d3 | d3
      · exact absurd d3.1 (by decide)
      · exact absurd d3.1 (by decide)
      · rw [d3.2.2]
        exact DIR.cc d1 d2 (Or.inr (Or.inr ⟨d3.2.1, Or.inr ⟨rfl, rfl⟩⟩))
      · exact absurd d3.1 (by decide)
    · obtain rfl := Option.some.inj (hs.symm.trans (if_neg z))
      exact SBQ.same hB (Or.inr (DIR.sml (show 2 ≤ 4 by decide)))
  by_cases k27 : k = 27
  · subst k27
    have p : PRL N m m' := D.elim id (fun d => (d.no (by decide)).elim)
    refine ⟨hB.top (g := fun e => if e.1 = 9 then (9, e.2.1, 0, e.2.2.2 ++ [(m.pk, m.pv)]) else e) (g' := fun e => if e.1 = 9 then (9, e.2.1, 0, e.2.2.2 ++ [(m'.pk, m'.pv)]) else e) (fun e e' g => ?_), Or.inl ⟨?_, ?_⟩, top_q.2.1, top_q.1, top_q.1⟩
    · by_cases c : e.1 = 9
      · have c' : e'.1 = 9 := by rw [g.1]; exact c
        show SRL N (if e.1 = 9 then (9, e.2.1, 0, e.2.2.2 ++ [(m.pk, m.pv)]) else e) (if e'.1 = 9 then (9, e'.2.1, 0, e'.2.2.2 ++ [(m'.pk, m'.pv)]) else e')
        rw [if_pos c, if_pos c', g.2.1, g.2.2.2.2.1 c, p.1, p.2]
        exact ⟨rfl, rfl, rfl, fun y => absurd (show (9 : Int) = 0 from y) (by decide), fun _ => by unfold mpA; rw [List.map_append]; rfl, fun _ => g.2.2.2.2.2 (Or.inr c)⟩
      · show SRL N (if e.1 = 9 then (9, e.2.1, 0, e.2.2.2 ++ [(m.pk, m.pv)]) else e) (if e'.1 = 9 then (9, e'.2.1, 0, e'.2.2.2 ++ [(m'.pk, m'.pv)]) else e')
        rw [if_neg c, if_neg (show ¬ e'.1 = 9 by rw [g.1]; exact c)]; exact g
    · show (m'.top _).2.2.1.1 = (m.top _).2.2.1.1; rw [top_q.2.2, top_q.2.2]; exact p.1
    · show (m'.top _).2.2.1.2 = opN N (m.top _).2.2.1.1 (m.top _).2.2.1.2; rw [top_q.2.2, top_q.2.2]; exact p.2
  by_cases k28 : k = 28
  · subst k28
    rw [mkk_df (by decide), mkk_df (by decide)]
    by_cases u : x.2.1 = 6
    · exact absurd (hs.symm.trans (if_pos u)) (by simp)
    · obtain rfl := Option.some.inj (hs.symm.trans (if_neg u))
      refine SBQ.same hB (D.imp id (fun d => ?_))
      obtain ⟨d1, d2⟩ := d.bR (by decide)
      rw [d2]
      exact DIR.bb d1 (Or.inr (Or.inl ⟨rfl, rfl⟩))
  by_cases k29 : k = 29
  · subst k29
    rw [mkk_df (by decide), mkk_df (by decide)]
    by_cases u : sgn t 125
    · obtain rfl := Option.some.inj (hs.symm.trans (if_pos u))
      refine SBQ.same hB (D.imp id (fun d => ?_))
      obtain ⟨d1, d2⟩ := d.bR (by decide)
      rw [d2]
      exact DIR.bb d1 (Or.inr (Or.inr (Or.inr (Or.inl ⟨rfl, rfl⟩))))
    · obtain rfl := Option.some.inj (hs.symm.trans (if_neg u))
      refine SBQ.same hB (D.imp id (fun d => ?_))
      obtain ⟨d1, d2⟩ := d.bR (by decide)
      rw [d2]
      exact DIR.bb d1 (Or.inr (Or.inr (Or.inr (Or.inr (Or.inr (Or.inl ⟨by decide, rfl⟩))))))
  by_cases k38 : k = 38
  · subst k38
    obtain rfl := Option.some.inj (hs.symm.trans rfl)
    refine ⟨hB.cal, ?_, cal_q.2.1, cal_q.1, cal_q.1⟩
    rcases D with p | d
    · refine Or.inl ⟨?_, ?_⟩
      · show (m'.cal _ _).2.2.1.1 = (m.cal _ _).2.2.1.1; rw [cal_q.2.2, cal_q.2.2]; exact p.1
      · show (m'.cal _ _).2.2.1.2 = opN N (m.cal _ _).2.2.1.1 (m.cal _ _).2.2.1.2; rw [cal_q.2.2, cal_q.2.2]; exact p.2
    · obtain ⟨e, S', d1, d2, d3⟩ := d.b8 (by decide)
      rcases d3 with d3 | d3 | d3 | d3
      · exact absurd d3.1 (by decide)
      · exact absurd d3.1 (by decide)
      · exact absurd d3.1 (by decide)
      · rw [d3.2.2]
        refine Or.inr (DIR.bb ?_ (Or.inr (Or.inr (Or.inr (Or.inr (Or.inr (Or.inr ⟨rfl, rfl⟩)))))))
        show T11 (m.cal rn q.1).S
        rw [cal_S d1 d3.2.1]; exact d2
  by_cases k39 : k = 39
  · subst k39
    obtain rfl := Option.some.inj (hs.symm.trans rfl)
    by_cases z : wrd t 7304564
    · have e1 : mkk s nm rn tb1 39 t q m = m.push (10, 6, 0, []) := if_pos z
      have e2 : mkk s nm (fun w => f (rn w)) Nf 39 t q m' = m'.push (10, 6, 0, []) := if_pos z
      rw [e1, e2]
      exact ⟨hB.psh (srl_id (show (10 : Int) ≠ 0 by decide) (show (10 : Int) ≠ 8 by decide) (show (10 : Int) ≠ 9 by decide)), Or.inr (DIR.sml (show 2 ≤ 4 by decide)), rfl, rfl, rfl⟩
    · have e1 : mkk s nm rn tb1 39 t q m = m.push (10, 7, 0, []) := if_neg z
      have e2 : mkk s nm (fun w => f (rn w)) Nf 39 t q m' = m'.push (10, 7, 0, []) := if_neg z
      rw [e1, e2]
      exact ⟨hB.psh (srl_id (show (10 : Int) ≠ 0 by decide) (show (10 : Int) ≠ 8 by decide) (show (10 : Int) ≠ 9 by decide)), Or.inr (DIR.sml (show 2 ≤ 4 by decide)), rfl, rfl, rfl⟩
  by_cases k40 : k = 40
  · subst k40
    rw [mkk_df (by decide), mkk_df (by decide)]
    obtain rfl := Option.some.inj (hs.symm.trans rfl)
    refine SBQ.same hB (D.imp id (fun d => ?_))
    obtain ⟨d1, d2⟩ := d.bR (by decide)
    rw [d2]
    exact DIR.bb d1 (Or.inr (Or.inr (Or.inr (Or.inr (Or.inl ⟨rfl, rfl⟩)))))
  by_cases k51 : k = 51
  · subst k51
    obtain rfl := Option.some.inj (hs.symm.trans rfl)
    have o := BDY.one (tb := Nf) hB hN (D.imp id (fun d => by
      obtain ⟨e, S', d1, d2⟩ := d.b51
      exact ⟨e, S', d1, by rcases d2 with d2 | d2; exact Or.inr d2.1; exact Or.inl d2.1⟩))
    refine ⟨o.1, ?_, one_q.2, one_q.1, one_q.1⟩
    rcases D with p | d
    · exact Or.inl (o.2.1 (Or.inl p))
    · obtain ⟨e, S', d1, d2⟩ := d.b51
      rcases d2 with ⟨d2, d3⟩ | ⟨d2, d3, d4⟩
      · rw [d3]; exact Or.inr (Or.inr (Or.inl rfl))
      · have oS : (mkk s nm rn tb1 51 t q m).S = S' := o.2.2 e S' d1 (Or.inl d2)
        refine Or.inr ?_
        rcases d4 with d4 | d4 | d4
        · rw [d4]; exact DIR.bb (by rw [oS]; exact d3) (Or.inr (Or.inr (Or.inr (Or.inr (Or.inr (Or.inl ⟨by decide, rfl⟩))))))
        · rw [d4]; exact DIR.bb (by rw [oS]; exact d3) (Or.inr (Or.inr (Or.inr (Or.inr (Or.inr (Or.inl ⟨by decide, rfl⟩))))))
        · rw [d4]; exact DIR.bb (by rw [oS]; exact d3) (Or.inr (Or.inr (Or.inr (Or.inr (Or.inr (Or.inl ⟨by decide, rfl⟩))))))
  by_cases k52 : k = 52
  · subst k52
    obtain rfl := Option.some.inj (hs.symm.trans rfl)
    refine ⟨hB.two (D.imp id (fun d => by obtain ⟨e, S', d1, d2, d3⟩ := d.b52; exact ⟨e, S', d1, d2⟩)), ?_, two_q.2.1, two_q.1, two_q.1⟩
    rcases D with p | d
    · refine Or.inl ⟨?_, ?_⟩
      · show m'.two.2.2.1.1 = m.two.2.2.1.1; rw [two_q.2.2, two_q.2.2]; exact p.1
      · show m'.two.2.2.1.2 = opN N m.two.2.2.1.1 m.two.2.2.1.2; rw [two_q.2.2, two_q.2.2]; exact p.2
    · obtain ⟨e, S', d1, d2, d3⟩ := d.b52
      rw [d3]; exact Or.inr (DIR.sml (show 2 ≤ 4 by decide))
  have n34 : k ≠ 34 ∧ k ≠ 35 := by rcases hk with y | y <;> omega
  have df : ¬ (k = 0 ∨ k = 1 ∨ k = 6 ∨ k = 8 ∨ k = 9 ∨ k = 20 ∨ k = 21 ∨ k = 22 ∨ k = 23 ∨ k = 24 ∨ k = 25 ∨ k = 27 ∨ k = 34 ∨ k = 35 ∨ k = 38 ∨ k = 39 ∨ k = 51 ∨ k = 52) := by omega
  rw [mkk_df df, mkk_df df]
  refine SBQ.same hB (D.imp id (fun d => ?_))
  by_cases k223 : k = 223
  · subst k223
    obtain ⟨d1, d2⟩ := d.bZ (by decide)
    by_cases u : sgn t (((223 : Nat) : Int) - 100)
    · obtain rfl := Option.some.inj (hs.symm.trans (if_pos u))
      rw [d2]; exact DIR.bb d1 (Or.inr (Or.inr (Or.inl ⟨rfl, rfl⟩)))
    · exact absurd (hs.symm.trans (if_neg u)) (by simp)
  by_cases k159 : k = 159
  · subst k159
    obtain ⟨d1, d2⟩ := d.bZ (by decide)
    by_cases u : sgn t (((159 : Nat) : Int) - 100)
    · obtain rfl := Option.some.inj (hs.symm.trans (if_pos u))
      rw [d2]; exact DIR.bb d1 (Or.inr (Or.inr (Or.inl ⟨rfl, rfl⟩)))
    · exact absurd (hs.symm.trans (if_neg u)) (by simp)
  by_cases k141 : k = 141
  · subst k141
    obtain ⟨d1, d2⟩ := d.b141
    by_cases u : sgn t (((141 : Nat) : Int) - 100)
    · obtain rfl := Option.some.inj (hs.symm.trans (if_pos u))
      rw [d2]; exact DIR.bb d1 (Or.inr (Or.inr (Or.inr (Or.inr (Or.inr (Or.inl ⟨by decide, rfl⟩))))))
    · exact absurd (hs.symm.trans (if_neg u)) (by simp)
  by_cases k161 : k = 161
  · subst k161
    obtain ⟨e, S', d1, d2, d3⟩ := d.b8 (by decide)
    by_cases u : sgn t (((161 : Nat) : Int) - 100)
    · obtain rfl := Option.some.inj (hs.symm.trans (if_pos u))
      rcases d3 with d3 | d3 | d3 | d3
      · rw [d3.2.2]; exact DIR.cc d1 d2 (Or.inr (Or.inl ⟨d3.2.1, Or.inr ⟨rfl, rfl⟩⟩))
      · exact absurd d3.1 (by decide)
      · exact absurd d3.1 (by decide)
      · exact absurd d3.1 (by decide)
    · exact absurd (hs.symm.trans (if_neg u)) (by simp)
  have o := d.oth
  omega
end STB
def HDR (K : List Nat) : Prop := K = [] ∨ K = [36] ∨ K = [30, 36] ∨ K = [140, 31, 36] ∨ K = [31, 36] ∨ K = [141, 35, 36] ∨ K = [32, 36] ∨ K = [33, 36] ∨ K = [35, 36]
def BOT (K : List Nat) : Prop := ∃ p, K = p ++ [34, 36] ∧ ∀ y ∈ p, NTg y
def RLM (Nf f : Int → Int) (K : List Nat) (m m' : MK) : Prop := m'.1 = m.1 ∧ DNX Nf f m m' ∧ (HDR K ∨ (BOT K ∧ BDY (Nf m.rt) f m m' ∧ PDR (Nf m.rt) K m m'))
section RLMS
variable {Nf f : Int → Int} {m m' : MK} {s : Int → Int} {nm : Int → Int64 → Int} {rn : Int64 → Int} {k : Nat} {K : List Nat} {t : TK} {x : Int × Int × Int} {q : QR} {ρ : List EV} {r : List Nat × TK × (Int × Int × Int) × QR × List EV}
theorem RLM.hd (h1 : m'.1 = m.1) (h2 : DNX Nf f m m') (hK : HDR K) : RLM Nf f K m m' := ⟨h1, h2, Or.inl hK⟩
theorem RLM.step (hnm : ∀ r w, nm r w < 1000) (h : RLM Nf f (k :: K) m m') (hs : stk s k t x q = some r) : RLM Nf f (r.1 ++ K) (mkk s nm rn tb1 k t q m) (mkk s nm (fun w => f (rn w)) Nf k t q m') := by
  obtain ⟨h1, h2, h3⟩ := h
  rcases h3 with h3 | ⟨⟨p, hp, hn⟩, hB, D⟩
  · rcases h3 with h3 | h3 | h3 | h3 | h3 | h3 | h3 | h3 | h3
    · exact absurd h3 (by simp)
    · obtain ⟨rfl, rfl⟩ := List.cons.inj h3
      rw [mkk_df (by decide), mkk_df (by decide)]
      by_cases z : t.2.2.1 = 0
      · obtain rfl := Option.some.inj (hs.symm.trans (if_pos z))
        exact RLM.hd h1 h2 (Or.inl rfl)
      · obtain rfl := Option.some.inj (hs.symm.trans (if_neg z))
        exact RLM.hd h1 h2 (Or.inr (Or.inr (Or.inl rfl)))
    · obtain ⟨rfl, rfl⟩ := List.cons.inj h3
      rw [mkk_df (by decide), mkk_df (by decide)]
      by_cases z : nam t
      · obtain rfl := Option.some.inj (hs.symm.trans (if_pos z))
        exact RLM.hd h1 h2 (Or.inr (Or.inr (Or.inr (Or.inl rfl))))
      · exact absurd (hs.symm.trans (if_neg z)) (by simp)
    · obtain ⟨rfl, rfl⟩ := List.cons.inj h3
      rw [mkk_df (by decide), mkk_df (by decide)]
      by_cases z : sgn t (((140 : Nat) : Int) - 100)
      · obtain rfl := Option.some.inj (hs.symm.trans (if_pos z))
        exact RLM.hd h1 h2 (Or.inr (Or.inr (Or.inr (Or.inr (Or.inl rfl)))))
      · exact absurd (hs.symm.trans (if_neg z)) (by simp)
    · obtain ⟨rfl, rfl⟩ := List.cons.inj h3
      rw [mkk_df (by decide), mkk_df (by decide)]
      by_cases z : sgn t 41
      · obtain rfl := Option.some.inj (hs.symm.trans (if_pos z))
        exact RLM.hd h1 h2 (Or.inr (Or.inr (Or.inr (Or.inr (Or.inr (Or.inl rfl))))))
      · obtain rfl := Option.some.inj (hs.symm.trans (if_neg z))
        exact RLM.hd h1 h2 (Or.inr (Or.inr (Or.inr (Or.inr (Or.inr (Or.inr (Or.inl rfl)))))))
    · obtain ⟨rfl, rfl⟩ := List.cons.inj h3
      rw [mkk_df (by decide), mkk_df (by decide)]
      by_cases z : sgn t (((141 : Nat) : Int) - 100)
      · obtain rfl := Option.some.inj (hs.symm.trans (if_pos z))
        exact RLM.hd h1 h2 (Or.inr (Or.inr (Or.inr (Or.inr (Or.inr (Or.inr (Or.inr (Or.inr rfl))))))))
      · exact absurd (hs.symm.trans (if_neg z)) (by simp)
    · obtain ⟨rfl, rfl⟩ := List.cons.inj h3
      rw [mkk_df (by decide), mkk_df (by decide)]
      by_cases z : nam t
      · obtain rfl := Option.some.inj (hs.symm.trans (if_pos z))
        exact RLM.hd h1 h2 (Or.inr (Or.inr (Or.inr (Or.inr (Or.inr (Or.inr (Or.inr (Or.inl rfl))))))))
      · exact absurd (hs.symm.trans (if_neg z)) (by simp)
    · obtain ⟨rfl, rfl⟩ := List.cons.inj h3
      rw [mkk_df (by decide), mkk_df (by decide)]
      by_cases z : sgn t 44
      · obtain rfl := Option.some.inj (hs.symm.trans (if_pos z))
        exact RLM.hd h1 h2 (Or.inr (Or.inr (Or.inr (Or.inr (Or.inr (Or.inr (Or.inl rfl)))))))
      · obtain rfl := Option.some.inj (hs.symm.trans (if_neg z))
        exact RLM.hd h1 h2 (Or.inr (Or.inr (Or.inr (Or.inr (Or.inr (Or.inl rfl))))))
    · obtain ⟨rfl, rfl⟩ := List.cons.inj h3
      obtain rfl := Option.some.inj (hs.symm.trans rfl)
      refine ⟨?_, h2, Or.inr ⟨⟨[28, 51], rfl, by intro y hy; simp only [List.mem_cons, List.not_mem_nil, or_false] at hy; rcases hy with rfl | rfl; exact Or.inl (by decide); exact Or.inr (by decide)⟩, ⟨⟨?_, rfl, Int.le_refl _, Int.le_refl _⟩, fun k k0 k1 => absurd (show k < 0 from k1) (by omega), ⟨srl_id (show (11 : Int) ≠ 0 by decide) (show (11 : Int) ≠ 8 by decide) (show (11 : Int) ≠ 9 by decide), trivial⟩⟩, Or.inr (DIR.bb ⟨(11, 0, 0, []), [], rfl, rfl⟩ (Or.inl ⟨rfl, rfl⟩))⟩⟩
      · show (m'.rt, m'.ln, (0 : Int), (0 : Int), (0 : Int)) = (m.rt, m.ln, 0, 0, 0)
        unfold MK.rt MK.ln; rw [h1]
      · show (m'.rt, m'.ln, (0 : Int), (0 : Int), (0 : Int)) = (m.rt, m.ln, 0, 0, 0)
        unfold MK.rt MK.ln; rw [h1]
  · cases p with
    | nil =>
      obtain ⟨rfl, rfl⟩ := List.cons.inj hp
      obtain rfl := Option.some.inj (hs.symm.trans rfl)
      have rt' := hB.rt
      refine ⟨?_, ⟨?_, fun y => ?_⟩, Or.inl (Or.inr (Or.inl rfl))⟩
      · show (m'.rt + 1, m'.ln, m'.fs, m'.lab, m'.tmp) = (m.rt + 1, m.ln, m.fs, m.lab, m.tmp)
        unfold MK.rt MK.ln MK.fs MK.lab MK.tmp; rw [h1]
      · show uZ m'.fr m'.rt m'.fs = uZ m.fr m.rt m.fs
        rw [h2.1, rt', show m'.fs = m.fs by unfold MK.fs; rw [h1]]
      · show (uZ m'.dn m'.rt (m'.n, m'.V) y).1 = (uZ m.dn m.rt (m.n, m.V) y).1 ∧ ∀ k, 0 ≤ k → k < (uZ m.dn m.rt (m.n, m.V) y).1 → (uZ m'.dn m'.rt (m'.n, m'.V) y).2 k = mpI (Nf y) f ((uZ m.dn m.rt (m.n, m.V) y).2 k) ∧ ((uZ m.dn m.rt (m.n, m.V) y).2 k 0 = 12 → (uZ m.dn m.rt (m.n, m.V) y).2 k 4 < 1000)
        rw [rt']
        by_cases z : y = m.rt
        · rw [z, uZ_eq, uZ_eq]; exact ⟨hB.1.2.1, hB.2.1⟩
        · rw [uZ_ne z, uZ_ne z]; exact h2.2 y
    | cons k2 p2 =>
      obtain ⟨rfl, rfl⟩ := List.cons.inj hp
      have hk : NTg k := hn k (by simp)
      obtain ⟨b1, b2, b3, b4, b5⟩ := BDY.step (rn := rn) hnm hk hB rfl D hs
      refine ⟨b1.1.1, ?_, Or.inr ⟨⟨r.1 ++ p2, (List.append_assoc _ _ _).symm, fun y hy => (List.mem_append.mp hy).elim (ntg_stk hk hs y) (fun z => hn y (List.mem_cons_of_mem _ z))⟩, by rw [b3]; exact b1, by rw [b3]; exact b2⟩⟩
      unfold DNX MK.dn MK.fr at h2 ⊢
      rw [b4, b5]
      exact h2
theorem RLM.run (hnm : ∀ r w, nm r w < 1000) : ∀ (n : Nat) {a : PCf} {m m' : MK}, (RLM Nf f a.1 m m' ∨ a = pF) → RLM Nf f (itr s n a).1 (mkn s nm rn tb1 n a m) (mkn s nm (fun w => f (rn w)) Nf n a m') ∨ itr s n a = pF
  | 0, _, _, _, h => h
  | n + 1, a, m, m', h => by
    show RLM Nf f (itr s n (stp s a)).1 (mkn s nm rn tb1 n (stp s a) (mkt s nm rn tb1 a m)) (mkn s nm (fun w => f (rn w)) Nf n (stp s a) (mkt s nm (fun w => f (rn w)) Nf a m')) ∨ itr s n (stp s a) = pF
    refine RLM.run hnm n ?_
    rcases h with h | h
    · obtain ⟨K0, t, x, q, ρ⟩ := a
      cases K0 with
      | nil => exact Or.inl h
      | cons k K =>
        cases e : stk s k t x q with
        | none => exact Or.inr (stp_none e)
        | some r =>
          rw [mkt_s e, mkt_s e, stp_some e]
          exact Or.inl (h.step hnm e)
    · rw [h, stp_pF]; exact Or.inr rfl
theorem RLM.fin {z z' mz mz' : MK} {a : PCf} {t2 : TK} {x2 : Int × Int × Int} {q2 : QR} {ρ2 : List EV} {b : PCf} (hnm : ∀ r w, nm r w < 1000) (h : RM s nm rn tb1 a z ([], t2, x2, q2, ρ2) mz) (g : RM s nm (fun w => f (rn w)) Nf a z' b mz') (hb : stp s b = b) (eb : ∀ m, mkt s nm (fun w => f (rn w)) Nf b m = m) (r0 : RLM Nf f a.1 z z') : mz'.1 = mz.1 ∧ DNX Nf f mz mz' := by
  obtain ⟨n, h1, h2⟩ := h
  have w := RLM.run (s := s) (rn := rn) hnm n (Or.inl r0)
  rw [h1, h2] at w
  have g2 : RM s nm (fun w => f (rn w)) Nf a z' ([], t2, x2, q2, ρ2) (mkn s nm (fun w => f (rn w)) Nf n a z') := ⟨n, h1, rfl⟩
  have d := RM.det g2 g rfl hb (fun _ => rfl) eb
  rw [d.2] at w
  rcases w with w | w
  · exact ⟨w.1, w.2.1⟩
  · exact absurd (congrArg Prod.fst w) (by show ¬ ([] : List Nat) = [999]; simp)
end RLMS
end
section
def bt (x sh : Int) : Int := (vp_nar .byte ((iI x >>> (iI sh &&& 31)).toInt8.toInt32)).toInt
theorem bt_r (x sh : Int) : -128 ≤ bt x sh ∧ bt x sh ≤ 127 := nar_rng _
def w4 (f : Int → Int) (s x : Int) : Int → Int := fun k => if k = s then bt x 24 else if k = s + 1 then bt x 16 else if k = s + 2 then bt x 8 else if k = s + 3 then bt x 0 else f k
theorem w4_of {f g : Int → Int} {s x : Int} (h0 : g s = bt x 24) (h1 : g (s + 1) = bt x 16) (h2 : g (s + 1 + 1) = bt x 8) (h3 : g (s + 1 + 1 + 1) = bt x 0) (ho : ∀ k, k ≠ s → k ≠ s + 1 → k ≠ s + 1 + 1 → k ≠ s + 1 + 1 + 1 → g k = f k) : g = w4 f s x := by
  funext k
  unfold w4
  by_cases c0 : k = s
  · rw [if_pos c0, c0]; exact h0
  rw [if_neg c0]
  by_cases c1 : k = s + 1
  · rw [if_pos c1, c1]; exact h1
  rw [if_neg c1]
  by_cases c2 : k = s + 2
  · rw [if_pos c2, c2, show s + 2 = s + 1 + 1 by omega]; exact h2
  rw [if_neg c2]
  by_cases c3 : k = s + 3
  · rw [if_pos c3, c3, show s + 3 = s + 1 + 1 + 1 by omega]; exact h3
  rw [if_neg c3]
  exact ho k c0 c1 (by omega) (by omega)
def w20 (f : Int → Int) (s x1 x2 x3 x4 x5 : Int) : Int → Int := w4 (w4 (w4 (w4 (w4 f s x1) (s + 4) x2) (s + 8) x3) (s + 12) x4) (s + 16) x5
def w4p (f : Int → Int) (s x j : Int) : Int → Int := fun k => if k = s ∧ 1 ≤ j then bt x 24 else if k = s + 1 ∧ 2 ≤ j then bt x 16 else if k = s + 2 ∧ 3 ≤ j then bt x 8 else if k = s + 3 ∧ 4 ≤ j then bt x 0 else f k
theorem w4p_0 (f : Int → Int) (s x : Int) : w4p f s x 0 = f := by
  funext k
  unfold w4p
  rw [if_neg (by omega), if_neg (by omega), if_neg (by omega), if_neg (by omega)]
theorem w4p_4 (f : Int → Int) (s x : Int) : w4p f s x 4 = w4 f s x := by
  funext k
  unfold w4p w4
  by_cases c0 : k = s
  · rw [if_pos ⟨c0, by omega⟩, if_pos c0]
  rw [if_neg (fun q => c0 q.1), if_neg c0]
  by_cases c1 : k = s + 1
  · rw [if_pos ⟨c1, by omega⟩, if_pos c1]
  rw [if_neg (fun q => c1 q.1), if_neg c1]
  by_cases c2 : k = s + 2
  · rw [if_pos ⟨c2, by omega⟩, if_pos c2]
  rw [if_neg (fun q => c2 q.1), if_neg c2]
  by_cases c3 : k = s + 3
  · rw [if_pos ⟨c3, by omega⟩, if_pos c3]
  rw [if_neg (fun q => c3 q.1), if_neg c3]
theorem w4p_s {f : Int → Int} {s x j sh : Int} (h0 : 0 ≤ j) (h3 : j ≤ 3) (hs : sh = 24 - 8 * j) : (fun k => if k = s + j then bt x sh else w4p f s x j k) = w4p f s x (j + 1) := by
  funext k
  have hh : j = 0 ∨ j = 1 ∨ j = 2 ∨ j = 3 := by omega
  unfold w4p
  rcases hh with r | r | r | r <;> subst r <;> subst hs <;> (repeat' split) <;> first
    | (exfalso; omega)
    | rfl
theorem bt_c {n sh : Int} (h : sh = 24 ∨ sh = 16 ∨ sh = 8 ∨ sh = 0) : vp_nar .byte ((((iI n).toUInt32 >>> ((iI sh).toUInt32 &&& Int32.toUInt32 31)).toInt32).toInt8.toInt32) = iI (bt n sh) := by
  have e : iI (bt n sh) = vp_nar .byte ((iI n >>> (iI sh &&& 31)).toInt8.toInt32) := iI_self _
  rw [e]
  rcases h with r | r | r | r <;> subst r
  · rw [show ((((iI n).toUInt32 >>> ((iI 24).toUInt32 &&& Int32.toUInt32 31)).toInt32).toInt8.toInt32) = ((iI n >>> (iI 24 &&& 31)).toInt8.toInt32) from tp_24 _]
  · rw [show ((((iI n).toUInt32 >>> ((iI 16).toUInt32 &&& Int32.toUInt32 31)).toInt32).toInt8.toInt32) = ((iI n >>> (iI 16 &&& 31)).toInt8.toInt32) from tp_16 _]
  · rw [show ((((iI n).toUInt32 >>> ((iI 8).toUInt32 &&& Int32.toUInt32 31)).toInt32).toInt8.toInt32) = ((iI n >>> (iI 8 &&& 31)).toInt8.toInt32) from tp_8 _]
  · rw [show ((((iI n).toUInt32 >>> ((iI 0).toUInt32 &&& Int32.toUInt32 31)).toInt32).toInt8.toInt32) = ((iI n >>> (iI 0 &&& 31)).toInt8.toInt32) from tp_0 _]
def TAL (f g : Int → Int) (n : Int) : Prop := ∀ k, 0 ≤ k → k < n → f k = g k ∧ -128 ≤ f k ∧ f k ≤ 127
theorem TAL.sub {f g : Int → Int} {n m : Int} (h : TAL f g n) (hm : m ≤ n) : TAL f g m := fun k a b => h k a (by omega)
theorem TAL.w {f g : Int → Int} {n x : Int} (h : TAL f g n) : TAL (w4 f n x) (w4 g n x) (n + 4) := fun k a b => by
  unfold w4
  by_cases c0 : k = n
  · rw [if_pos c0, if_pos c0]; exact ⟨rfl, bt_r _ _⟩
  rw [if_neg c0, if_neg c0]
  by_cases c1 : k = n + 1
  · rw [if_pos c1, if_pos c1]; exact ⟨rfl, bt_r _ _⟩
  rw [if_neg c1, if_neg c1]
  by_cases c2 : k = n + 2
  · rw [if_pos c2, if_pos c2]; exact ⟨rfl, bt_r _ _⟩
  rw [if_neg c2, if_neg c2]
  by_cases c3 : k = n + 3
  · rw [if_pos c3, if_pos c3]; exact ⟨rfl, bt_r _ _⟩
  rw [if_neg c3, if_neg c3]
  exact h k a (by omega)
theorem TAL.w20 {f g : Int → Int} {n x1 x2 x3 x4 x5 : Int} (h : TAL f g n) : TAL (w20 f n x1 x2 x3 x4 x5) (w20 g n x1 x2 x3 x4 x5) (n + 20) := by
  have a1 := h.w (x := x1)
  have a2 := a1.w (x := x2)
  have a3 := (show TAL _ _ (n + 8) from by rw [show n + 8 = n + 4 + 4 by omega]; exact a2).w (x := x3)
  have a4 := (show TAL _ _ (n + 12) from by rw [show n + 12 = n + 8 + 4 by omega]; exact a3).w (x := x4)
  have a5 := (show TAL _ _ (n + 16) from by rw [show n + 16 = n + 12 + 4 by omega]; exact a4).w (x := x5)
  rw [show n + 20 = n + 16 + 4 by omega]
  exact a5
def fTm (τ : MS) : Int → Int := fun k => if an5 (τ.2.1 1 k) ≤ 127 then an5 (τ.2.1 1 k) else an5 (τ.2.1 1 k) - 256
theorem fTm_b (τ : MS) : BYT (fTm τ) := fun k => by
  have r := an5_r (τ.2.1 1 k)
  unfold fTm
  by_cases c : an5 (τ.2.1 1 k) ≤ 127
  · rw [if_pos c]; omega
  · rw [if_neg c]; omega
theorem fTm_sv {τ : MS} {n : Int} (h : τ.1 21 = n) : svC (fTm τ) n = sv τ := by
  funext k
  have r := an5_r (τ.2.1 1 k)
  unfold svC sv fTm
  rw [h]
  by_cases c : k < n
  · rw [if_pos c, if_pos c]
    by_cases d : an5 (τ.2.1 1 k) ≤ 127
    · rw [if_pos d, if_neg (by omega)]
    · rw [if_neg d, if_pos (by omega)]; omega
  · rw [if_neg c, if_neg c]
theorem an5_fin : ∀ n : Fin 256, an5 (((n : Nat) : Int) - 128) = if (n : Nat) < 128 then ((n : Nat) : Int) - 128 + 256 else ((n : Nat) : Int) - 128 := by decide +kernel
theorem an5_at {z : Int} (h : -128 ≤ z ∧ z ≤ 127) : an5 z = if z < 0 then z + 256 else z := by
  have q := an5_fin ⟨(z + 128).toNat, by omega⟩
  have e : (((z + 128).toNat : Nat) : Int) - 128 = z := by omega
  simp only [e] at q
  rw [q]
  by_cases c : z < 0
  · rw [if_pos c, if_pos (by omega)]
  · rw [if_neg c, if_neg (by omega)]
theorem TAL.rw {f : Int → Int} {τ : MS} {n : Int} (h : TAL f (τ.2.1 1) n) : ∀ k, 0 ≤ k → k < n → f k = fTm τ k := fun k a b => by
  obtain ⟨q1, q2⟩ := h k a b
  unfold fTm
  rw [← q1, an5_at q2]
  by_cases c : f k < 0
  · rw [if_pos c, if_neg (by omega)]; omega
  · rw [if_neg c, if_pos (by omega)]
theorem tw_step {σ : MS} {x : Nat} {f : Int → Int} {tg n sh z : Int} (h : σ.2.1 (1000 + x) = w4p f tg n (z - tg)) (h0 : 0 ≤ z - tg) (h3 : z - tg ≤ 3) (hs : sh = 24 - 8 * (z - tg)) : (sA (1000 + x) z (bt n sh) σ).2.1 (1000 + x) = w4p f tg n (z + 1 - tg) := by
  have e : (sA (1000 + x) z (bt n sh) σ).2.1 (1000 + x) = fun k => if k = tg + (z - tg) then bt n sh else w4p f tg n (z - tg) k := by
    funext k
    rw [sA_at, h, show tg + (z - tg) = z by omega]
  rw [e, w4p_s h0 h3 hs, show z - tg + 1 = z + 1 - tg by omega]
def TWQ (σ σ2 : MS) (a : Nat) (n : Int) : Prop := ∀ x : Nat, σ.2.1 95 a = (x : Int) → σ2.2.1 (1000 + x) = w4 (σ.2.1 (1000 + x)) (σ.2.1 96 a) n
def FWQ (σ σ2 : MS) (a : Nat) (p q r s t : Int) : Prop := ∀ x : Nat, σ.2.1 95 a = (x : Int) → (σ.2.1 96 a ≤ 1180 → σ2.2.1 (1000 + x) = w20 (σ.2.1 (1000 + x)) (σ.2.1 96 a) p q r s t) ∧ (1180 < σ.2.1 96 a → σ2.2.1 (1000 + x) = σ.2.1 (1000 + x))
theorem RQ9.of {σ : MS} {b : Nat} {S : Int → Int} {v f p r0 r g : Int} (h : TO9 σ b S g) (hg : g = 0 ∨ g = 1) (hf : f = σ.2.1 43 b) (h0 : g = 0 → v = -1 ∧ p = σ.2.1 44 b ∧ r = r0) (h1 : g = 1 → v = (if σ.2.1 38 b ≤ 6 then σ.2.1 38 b else 6) ∧ p = -1 ∧ r = v) : RQ9 S v f p r0 r := by
  rcases h with ⟨q1, es, pl, q2, q3⟩ | ⟨es, t, x, q, ρ, q2, q3⟩
  · obtain ⟨a1, a2, a3⟩ := h0 q1
    exact Or.inl ⟨es, pl, q2, a1, by rw [hf]; exact q3.1, by rw [a2]; exact q3.2, a3⟩
  · obtain ⟨s1, s2, s3, s4⟩ := q3
    have e1 : σ.2.1 43 b = (RA9 (es.foldl uC c00)).1 := congrArg Prod.fst s1
    have e2 : σ.2.1 44 b = (RA9 (es.foldl uC c00)).2 := congrArg Prod.snd s1
    refine Or.inr ⟨es, t, x, q, ρ, q2, by rw [hf]; exact e1, fun z => ?_, fun z => ?_⟩
    · have g1 : g = 1 := by
        rcases hg with w | w
        · exact absurd (hf.symm.trans z) (s4 w)
        · exact w
      rw [← s2]; exact h1 g1
    · have g0 : g = 0 := by
        rcases hg with w | w
        · exact w
        · exact absurd (hf.trans (s3 w)) z
      obtain ⟨a1, a2, a3⟩ := h0 g0
      exact ⟨a1, by rw [a2]; exact e2, a3⟩
theorem min6 {z r : Int} (h : (r ≤ 6 ∧ z = r) ∨ (6 ≤ r ∧ z = 6)) : z = (if r ≤ 6 then r else 6) := by
  by_cases c : r ≤ 6
  · rw [if_pos c]; omega
  · rw [if_neg c]; omega
end
