section
set_option maxHeartbeats 4000000 in
set_option maxRecDepth 20000 in
theorem l_X9_scan_f_24 (d : Nat) {T : CT} {σ0 : MS} {a : Nat} {rx1 : Nat} {c3 : Int} {fT : Int → Int} {Sx : Int → Int} {post : Option Value → CT → MS → Prop} (h_a : OB T a 9) (h_rx1 : (T rx1).1 = 2) (l_rx1 : (T rx1).2 ≤ 1000000) (r_c3 : 0 ≤ c3 ∧ c3 ≤ 1200) (hw0 : WT T σ0) (ht : (T rx1).2 = 1200) (hB : BYT fT) (hSx : Sx = svC fT c3) (hx_92 : ∀ (i4 : Int) (i5 : Int) (σ : MS) , (WT T σ) → (FrC T [85, 86, 87, 512, 522, 523] σ0 σ) → (0 ≤ i4 ∧ i4 ≤ 1200) → (0 ≤ i5 ∧ i5 ≤ 1200) → (i4 ≤ i5 ∧ i5 ≤ c3) → (SCI σ a Sx (i4) (i5)) → (RWE σ rx1 fT c3) → (σ.2.1 85 a ≠ 263 → i5 = c3) → Tn (d + 3) m_X9_scan 92 T σ [(0, .ref a), (1, .ref rx1), (3, .int (iI c3)), (4, .int (iI i4)), (5, .int (iI i5))] [] post) : ∀ (n : Nat) (i4 : Int) (i5 : Int) (σ : MS) , (WT T σ) → (FrC T [85, 86, 87, 512, 522, 523] σ0 σ) → (0 ≤ i4 ∧ i4 ≤ 1200) → (0 ≤ i5 ∧ i5 ≤ 1200) → (i4 ≤ i5 ∧ i5 ≤ c3) → (SCI σ a Sx (i4) (i5)) → (RWE σ rx1 fT c3) → (2000 - i5).toNat = n → Tn (d + 3) m_X9_scan 24 T σ [(0, .ref a), (1, .ref rx1), (3, .int (iI c3)), (4, .int (iI i4)), (5, .int (iI i5))] [] post := by
  intro n
  induction n using Nat.strongRecOn with
  | _ n ih =>
    intro i4 i5 σ hw hF r_i4 r_i5 h0 hsc hrow hm
    refine tn_iload dX9_scan_24 4 rfl ?_
    refine tn_iload_n dX9_scan_26 rfl 2 rfl ?_
    refine tn_icmp_ge (tgt := 92) dX9_scan_27 (by decide) ⟨by omega, by omega⟩ ⟨by omega, by omega⟩ (fun h1 => ?_) (fun h1 => ?_)
    · exact tn_sub [0, 1, 2, 3, 4] rfl (hx_92 (i4) (i5) σ hw (FrC.rfl.trans (FrC.sub hF (by decide))) (by omega) (by omega) (by omega) hsc hrow (fun q => by omega))
    · refine tn_aload_n dX9_scan_30 rfl 0 rfl ?_
      refine tn_getI (ci := 9) (i := 4) (n := 85) (t := σ.2.1 85 a) dX9_scan_31 rfl lay_9 (by decide) fl9_30 h_a rfl rfl (rfl) ?_
      have g2 : ((-2147483648 : Int) ≤ σ.2.1 85 a ∧ σ.2.1 85 a ≤ 2147483647) := wf_85 hw h_a
      refine tn_sipush dX9_scan_34 (by decide) ?_
      refine tn_icmp_eq (tgt := 92) dX9_scan_37 (by decide) ⟨by omega, by omega⟩ ⟨by decide, by decide⟩ (fun h3 => ?_) (fun h3 => ?_)
      · exact tn_sub [0, 1, 2, 3, 4] rfl (hx_92 (i4) (i5) σ hw (FrC.rfl.trans (FrC.sub hF (by decide))) (by omega) (by omega) (by omega) hsc hrow (fun q => by omega))
      · refine tn_aload_n dX9_scan_40 rfl 1 rfl ?_
        refine tn_iload dX9_scan_41 4 rfl ?_
        have g4 := hB (i5)
        refine tn_bald (z := i5) (v := fT (i5)) dX9_scan_43 h_rx1 (by omega) (by omega) (by omega) (hrow (i5) (by omega) (by omega)) ?_
        refine tn_bipush dX9_scan_44 (by decide) ?_
        refine tn_icmp_eq (tgt := 58) dX9_scan_46 (by decide) ⟨by omega, by omega⟩ ⟨by decide, by decide⟩ (fun h5 => ?_) (fun h5 => ?_)
        · refine tn_iinc (q0 := 4) (L' := [(5, .int (iI (i5 + 1))), (0, .ref a), (1, .ref rx1), (3, .int (iI c3)), (4, .int (iI i4))]) dX9_scan_58 rfl (by decide) rfl ?_
          refine tn_goto (tgt := 24) dX9_scan_61 (by decide) ?_
          exact tn_sub [1, 2, 3, 4, 0] rfl (ih _ (by omega) (i4) (i5 + 1) σ hw (FrC.rfl.trans (FrC.sub hF (by decide))) (by omega) (by omega) (by omega) (SCI.bl hsc (by omega) (by have e9 := is_byte hSx (k := i5) (by omega) (by omega); omega) (by omega)) hrow rfl)
        · refine tn_aload_n dX9_scan_49 rfl 1 rfl ?_
          refine tn_iload dX9_scan_50 4 rfl ?_
          have g6 := hB (i5)
          refine tn_bald (z := i5) (v := fT (i5)) dX9_scan_52 h_rx1 (by omega) (by omega) (by omega) (hrow (i5) (by omega) (by omega)) ?_
          refine tn_bipush dX9_scan_53 (by decide) ?_
          refine tn_icmp_ne (tgt := 64) dX9_scan_55 (by decide) ⟨by omega, by omega⟩ ⟨by decide, by decide⟩ (fun h7 => ?_) (fun h7 => ?_)
          · refine tn_aload_n dX9_scan_64 rfl 0 rfl ?_
            refine tn_iload dX9_scan_65 4 rfl ?_
            refine tn_putV (ci := 9) (i := 6) (n := 87) (r := false) (v := i5) tyX9 tyX9_ok nmX9 dX9_scan_67 rfl lay_9 (by decide) fl9_34 rfl (tyX9_ok 6 (by decide)) rfl rfl rfl h_a rfl rfl ?_
            refine tn_aload_n dX9_scan_70 rfl 0 rfl ?_
            refine tn_aload_n dX9_scan_71 rfl 1 rfl ?_
            refine tn_iload_n dX9_scan_72 rfl 2 rfl ?_
            refine tn_iload dX9_scan_73 4 rfl ?_
            refine tn_callV (M := m_X9_scan) (pc := 75) (ix := 37) (ci := 9) (M' := m_X9_scanOne) (As := [.ref rx1, .int (iI c3), .int (iI i5)]) (rest := []) dX9_scan_75 ok_X9_scanOne im_X9_scanOne se_X9_scanOne ml9_37 np_X9_scanOne rfl rfl h_a rfl (Nat.le_of_ble_eq_true rfl) (Nat.le_of_ble_eq_true rfl) rfl (k_X9_scanOne_f (d) (T := T) (σ := (sA 87 a (i5) σ)) (a := a) (t := rx1) (l := c3) (i := i5) h_a h_rx1 (by omega) (by omega) (by omega) (hw.put (by decide) (by decide) (fo_87 (by omega))) (by omega) ht (RWE.cg hrow (sA_k (by omega))) hB hSx) (fun r8 T10 σ9 gt11 hp => ?_)
            obtain ⟨v15, rfl, rfl, w16, F17, f12, f13, f14⟩ := hp
            clear gt11
            show Tn _ _ 78 T σ9 [(0, .ref a), (1, .ref rx1), (3, .int (iI c3)), (4, .int (iI i4)), (5, .int (iI i5))] [.int (iI v15)] _
            refine tn_istore (L' := [(5, .int (iI v15)), (0, .ref a), (1, .ref rx1), (3, .int (iI c3)), (4, .int (iI i4))]) dX9_scan_78 (by decide) rfl ?_
            refine tn_aload_n dX9_scan_80 rfl 1 rfl ?_
            refine tn_iload dX9_scan_81 4 rfl ?_
            have q22 : σ9.2.1 87 a = i5 := rc_F F17 (Or.inl (by decide)) (by decide) (ra_eq)
            refine tn_callV (M := m_X9_scan) (pc := 83) (ix := 41) (ci := 9) (M' := m_X9_keep) (As := [.int (iI i4)]) (rest := []) dX9_scan_83 ok_X9_keep im_X9_keep se_X9_keep ml9_41 np_X9_keep rfl rfl h_a rfl (Nat.le_of_ble_eq_true rfl) (Nat.le_of_ble_eq_true rfl) rfl (k_X9_keep_f (d) (T := T) (σ := σ9) (a := a) (n := i4) h_a (by omega) w16 (by omega) (by omega)) (fun r18 T20 σ19 gt21 hp => ?_)
            obtain ⟨rfl, rfl, w25, F26, f23⟩ := hp
            clear gt21
            show Tn _ _ 86 T σ19 [(5, .int (iI v15)), (0, .ref a), (1, .ref rx1), (3, .int (iI c3)), (4, .int (iI i4))] [] _
            refine tn_iinc (q0 := 4) (L' := [(4, .int (iI (i4 + 1))), (5, .int (iI v15)), (0, .ref a), (1, .ref rx1), (3, .int (iI c3))]) dX9_scan_86 rfl (by decide) rfl ?_
            refine tn_goto (tgt := 24) dX9_scan_89 (by decide) ?_
            have w27F : FrC T [85, 86, 87] σ σ9 := ((FrC.rfl.put (by decide) (by decide)).trans (FrC.sub F17 (by decide)))
            have w27r := rowsT hw h_a w27F (by decide) (by decide) (by decide)
            have w2781 : σ9.2.1 81 = σ.2.1 81 := w27F.1 81 (Or.inl (by decide)) (by decide)
            have w2782 : σ9.2.1 82 = σ.2.1 82 := w27F.1 82 (Or.inl (by decide)) (by decide)
            have w2783 : σ9.2.1 83 = σ.2.1 83 := w27F.1 83 (Or.inl (by decide)) (by decide)
            have w27k : KPQ σ σ19 a (i4) (σ9.2.1 85 a) (σ9.2.1 86 a) (i5) := ⟨fun k hk i => by rw [f23.1 k (by rw [w2781]; exact hk) i, w27r k (Or.inl hk)], fun k hk i => by rw [f23.2.1 k (by rw [w2782]; exact hk) i, w27r k (Or.inr (Or.inl hk))], fun k hk i => by rw [f23.2.2 k (by rw [w2783]; exact hk) i, w27r k (Or.inr (Or.inr hk)), show σ9.2.1 87 a = i5 from rc_F F17 (Or.inl (by decide)) (by decide) (ra_eq)]⟩
            have w27f : ∀ k ∈ [81, 82, 83], σ19.2.1 k = σ.2.1 k := fun k hk => (F26.1 k (Or.inl ((by decide : ∀ k ∈ [81, 82, 83], k < 200) k hk)) ((by decide : ∀ k ∈ [81, 82, 83], k ∉ [512, 522, 523]) k hk)).trans (w27F.1 k (Or.inl ((by decide : ∀ k ∈ [81, 82, 83], k < 200) k hk)) ((by decide : ∀ k ∈ [81, 82, 83], k ∉ [85, 86, 87]) k hk))
            exact tn_sub [2, 3, 4, 0, 1] rfl (ih _ (by omega) (i4 + 1) (v15) σ19 w25 ((((FrC.rfl.trans (FrC.sub hF (by decide))).put (by decide) (by decide)).trans (FrC.sub F17 (by decide))).trans (FrC.sub F26 (by decide))) (by omega) (by omega) (by omega) (SCI.tk hsc (by rw [hSx]; exact svC_sb hB) (by rw [hSx]; exact svC_sen (by omega)) (by omega) (by omega) (not_blk hSx hB (by omega) (by omega) (by omega)) (in_byte hSx hB (by omega)) f14 w27f w27k (F26.1 85 (Or.inl (by decide)) (by decide) ▸ rfl)) (RWE.cg (RWE.cg (RWE.cg hrow (sA_k (by omega))) (F17.2 rx1 (by rw [h_rx1]; unfold HT; omega) (by rw [h_rx1]; decide))) (F26.2 rx1 (by rw [h_rx1]; unfold HT; omega) (by rw [h_rx1]; decide))) rfl)
          · refine tn_iinc (q0 := 4) (L' := [(5, .int (iI (i5 + 1))), (0, .ref a), (1, .ref rx1), (3, .int (iI c3)), (4, .int (iI i4))]) dX9_scan_58 rfl (by decide) rfl ?_
            refine tn_goto (tgt := 24) dX9_scan_61 (by decide) ?_
            exact tn_sub [1, 2, 3, 4, 0] rfl (ih _ (by omega) (i4) (i5 + 1) σ hw (FrC.rfl.trans (FrC.sub hF (by decide))) (by omega) (by omega) (by omega) (SCI.bl hsc (by omega) (by have e9 := is_byte hSx (k := i5) (by omega) (by omega); omega) (by omega)) hrow rfl)
set_option maxHeartbeats 4000000 in
set_option maxRecDepth 20000 in
theorem k_X9_scan_f (d : Nat) {T : CT} {σ : MS} {a : Nat} {t : Nat} {n : Int} {fT Sx : Int → Int} (ha : OB T a 9) (h_t : (T t).1 = 2) (l_t : (T t).2 ≤ 1000000) (h_n : -2147483648 ≤ n ∧ n ≤ 2147483647) (hw : WT T σ) (ht : (T t).2 = 1200) (hn : 0 ≤ n ∧ n ≤ 1200) (hfT : RWE σ t fT n) (hB : BYT fT) (hSx : Sx = svC fT n) : Tn (d + 3) m_X9_scan 0 T σ [(0, .ref a), (1, .ref t), (2, .int (iI n))] [] (fun ro T2 σ2 => ro = none ∧ T = T2 ∧ WT T2 σ2 ∧ FrC T [84, 85, 86, 87, 512, 522, 523] σ σ2 ∧ (TKI σ2 a) ∧ (∃ m : Nat, TKT σ2 a Sx m 0)) := by
  have hrow := hfT
  refine tn_iconst dX9_scan_0 ?_
  refine tn_iload_n dX9_scan_1 rfl 2 rfl ?_
  refine tn_aload_n dX9_scan_2 rfl 1 rfl ?_
  refine tn_alenX dX9_scan_3 (Or.inr (Or.inl h_t)) ?_
  refine tn_mmin (x := n) (y := ((T t).2 : Int)) dX9_scan_4 mlm9_21 stM_min iniM cdM_min (by omega) (Nat.le_of_ble_eq_true rfl) ⟨by omega, by omega⟩ ⟨by omega, by omega⟩ (fun z1 g2 => ?_)
  refine tn_mmax (x := 0) (y := z1) dX9_scan_7 mlm9_27 stM_max iniM cdM_max (by omega) (Nat.le_of_ble_eq_true rfl) ⟨by omega, by omega⟩ ⟨by omega, by omega⟩ (fun z3 g4 => ?_)
  refine tn_istore_n (L' := [(3, .int (iI z3)), (0, .ref a), (1, .ref t), (2, .int (iI n))]) dX9_scan_10 rfl (by decide) rfl ?_
  refine tn_iconst dX9_scan_11 ?_
  refine tn_istore (L' := [(4, .int (iI 0)), (3, .int (iI z3)), (0, .ref a), (1, .ref t), (2, .int (iI n))]) dX9_scan_12 (by decide) rfl ?_
  refine tn_iconst dX9_scan_14 ?_
  refine tn_istore (L' := [(5, .int (iI 0)), (4, .int (iI 0)), (3, .int (iI z3)), (0, .ref a), (1, .ref t), (2, .int (iI n))]) dX9_scan_15 (by decide) rfl ?_
  refine tn_aload_n dX9_scan_17 rfl 3 rfl ?_
  refine tn_sipush dX9_scan_18 (by decide) ?_
  refine tn_putV (ci := 9) (i := 4) (n := 85) (r := false) (v := 264) tyX9 tyX9_ok nmX9 dX9_scan_21 rfl lay_9 (by decide) fl9_30 rfl (tyX9_ok 4 (by decide)) rfl rfl rfl ha rfl rfl ?_
  have q5 : (sA 85 a (264) σ).2.1 85 a = 264 := ra_eq
  refine tn_sub [3, 4, 2, 1, 0] rfl (l_X9_scan_f_24 (d) (T := T) (σ0 := (sA 85 a (264) σ)) (a := a) (rx1 := t) (c3 := z3) (fT := fT) (Sx := Sx) ha h_t (by omega) (by omega) (hw.put (by decide) (by decide) (fo_85 (by omega))) ht hB (by rw [show z3 = n by omega]; exact hSx) (fun i46 i57 σ8 w11 F12 r13 r14 f15 f16 f17 f18 => ?_) _ (0) (0) (sA 85 a (264) σ) (hw.put (by decide) (by decide) (fo_85 (by omega))) FrC.rfl (by omega) (by omega) (by omega) ⟨fun _ _ _ _ _ _ i hi => absurd hi (by omega), Or.inl ⟨by rw [q5]; omega, rfl, fun j hj => absurd hj (by omega)⟩⟩ (by rw [show z3 = n by omega]; exact (RWE.cg hrow (sA_k (by omega)))) rfl)
  show Tn _ _ 92 T σ8 [(0, .ref a), (1, .ref t), (3, .int (iI z3)), (4, .int (iI i46)), (5, .int (iI i57))] [] _
  refine tn_aload_n dX9_scan_92 rfl 0 rfl ?_
  refine tn_getI (ci := 9) (i := 4) (n := 85) (t := σ8.2.1 85 a) dX9_scan_93 rfl lay_9 (by decide) fl9_30 ha rfl rfl (rfl) ?_
  have g19 : ((-2147483648 : Int) ≤ σ8.2.1 85 a ∧ σ8.2.1 85 a ≤ 2147483647) := wf_85 w11 ha
  refine tn_sipush dX9_scan_96 (by decide) ?_
  refine tn_icmp_eq (tgt := 120) dX9_scan_99 (by decide) ⟨by omega, by omega⟩ ⟨by decide, by decide⟩ (fun h20 => ?_) (fun h20 => ?_)
  · refine tn_aload_n dX9_scan_120 rfl 0 rfl ?_
    refine tn_iconst dX9_scan_121 ?_
    refine tn_putV (ci := 9) (i := 3) (n := 84) (r := false) (v := -1) tyX9 tyX9_ok nmX9 dX9_scan_122 rfl lay_9 (by decide) fl9_45 rfl (tyX9_ok 3 (by decide)) rfl rfl rfl ha rfl rfl ?_
    refine tn_aload_n dX9_scan_125 rfl 0 rfl ?_
    have w21 := SCI.bd f16 (by omega)
    have w21t : TRW (sA 84 a (-1) σ8) a Sx (i46 - 1).toNat := w21.2.1.pt (by decide)
    have q22 : (sA 84 a (-1) σ8).2.1 84 a = -1 := ra_eq
    have q27 : (sA 84 a (-1) σ8).2.1 84 a = -1 := ra_eq
    refine tn_callV (M := m_X9_scan) (pc := 126) (ix := 48) (ci := 9) (M' := m_X9_next) (As := []) (rest := []) dX9_scan_126 ok_X9_next im_X9_next se_X9_next ml9_48 np_X9_next rfl rfl ha rfl (Nat.le_of_ble_eq_true rfl) (Nat.le_of_ble_eq_true rfl) rfl (k_X9_next_f0 (d + 1) (T := T) (σ := (sA 84 a (-1) σ8)) (a := a) ha (w11.put (by decide) (by decide) (fo_84 (by omega))) (fun q => absurd (q.symm.trans (ra_eq)) (by decide)) q22 w21t w21.2.2 (by omega)) (fun r23 T25 σ24 gt26 hp => ?_)
    obtain ⟨rfl, rfl, w33, F34, f28, f29, f30, f31⟩ := hp
    clear gt26
    show Tn _ _ 129 T σ24 [(0, .ref a), (1, .ref t), (3, .int (iI z3)), (4, .int (iI i46)), (5, .int (iI i57))] [] _
    exact tn_vret rfl dX9_scan_129 ⟨rfl, rfl, w33, ((((FrC.rfl.put (by decide) (by decide)).trans (FrC.sub F12 (by decide))).put (by decide) (by decide)).trans (FrC.sub F34 (by decide))), f28, ⟨_, f31⟩⟩
  · refine tn_aload_n dX9_scan_102 rfl 0 rfl ?_
    refine tn_sipush dX9_scan_103 (by decide) ?_
    refine tn_putV (ci := 9) (i := 4) (n := 85) (r := false) (v := 264) tyX9 tyX9_ok nmX9 dX9_scan_106 rfl lay_9 (by decide) fl9_30 rfl (tyX9_ok 4 (by decide)) rfl rfl rfl ha rfl rfl ?_
    refine tn_aload_n dX9_scan_109 rfl 0 rfl ?_
    refine tn_iload_n dX9_scan_110 rfl 2 rfl ?_
    refine tn_putV (ci := 9) (i := 6) (n := 87) (r := false) (v := z3) tyX9 tyX9_ok nmX9 dX9_scan_111 rfl lay_9 (by decide) fl9_34 rfl (tyX9_ok 6 (by decide)) rfl rfl rfl ha rfl rfl ?_
    refine tn_aload_n dX9_scan_114 rfl 0 rfl ?_
    refine tn_iload dX9_scan_115 3 rfl ?_
    have q39 : (sA 87 a (z3) (sA 85 a (264) σ8)).2.1 85 a = 264 := rc_o (by decide) (ra_eq)
    have q40 : (sA 87 a (z3) (sA 85 a (264) σ8)).2.1 86 a = σ8.2.1 86 a := rc_o (by decide) (rc_o (by decide) (rfl))
    have q41 : (sA 87 a (z3) (sA 85 a (264) σ8)).2.1 87 a = z3 := ra_eq
    refine tn_callV (M := m_X9_scan) (pc := 117) (ix := 41) (ci := 9) (M' := m_X9_keep) (As := [.int (iI i46)]) (rest := []) dX9_scan_117 ok_X9_keep im_X9_keep se_X9_keep ml9_41 np_X9_keep rfl rfl ha rfl (Nat.le_of_ble_eq_true rfl) (Nat.le_of_ble_eq_true rfl) rfl (k_X9_keep_f (d) (T := T) (σ := (sA 87 a (z3) (sA 85 a (264) σ8))) (a := a) (n := i46) ha (by omega) ((w11.put (by decide) (by decide) (fo_85 (by omega))).put (by decide) (by decide) (fo_87 (by omega))) (fun _ => Or.inr (Or.inr (rc_o (by decide) (ra_eq)))) (by omega)) (fun r35 T37 σ36 gt38 hp => ?_)
    obtain ⟨rfl, rfl, w44, F45, f42⟩ := hp
    clear gt38
    show Tn _ _ 120 T σ36 [(0, .ref a), (1, .ref t), (3, .int (iI z3)), (4, .int (iI i46)), (5, .int (iI i57))] [] _
    refine tn_aload_n dX9_scan_120 rfl 0 rfl ?_
    refine tn_iconst dX9_scan_121 ?_
    refine tn_putV (ci := 9) (i := 3) (n := 84) (r := false) (v := -1) tyX9 tyX9_ok nmX9 dX9_scan_122 rfl lay_9 (by decide) fl9_45 rfl (tyX9_ok 3 (by decide)) rfl rfl rfl ha rfl rfl ?_
    refine tn_aload_n dX9_scan_125 rfl 0 rfl ?_
    have w46F : FrC T [85, 87] σ8 (sA 87 a (z3) (sA 85 a (264) σ8)) := ((FrC.rfl.put (by decide) (by decide)).put (by decide) (by decide))
    have w46r := rowsT w11 ha w46F (by decide) (by decide) (by decide)
    have w46k : KPQ σ8 σ36 a (i46) 264 (σ8.2.1 86 a) (z3) := ⟨fun k hk i => by rw [f42.1 k (by rw [w46F.1 81 (Or.inl (by decide)) (by decide)]; exact hk) i, w46r k (Or.inl hk), show (sA 87 a (z3) (sA 85 a (264) σ8)).2.1 85 a = 264 from rc_o (by decide) ra_eq], fun k hk i => by rw [f42.2.1 k (by rw [w46F.1 82 (Or.inl (by decide)) (by decide)]; exact hk) i, w46r k (Or.inr (Or.inl hk))]; rfl, fun k hk i => by rw [f42.2.2 k (by rw [w46F.1 83 (Or.inl (by decide)) (by decide)]; exact hk) i, w46r k (Or.inr (Or.inr hk)), show (sA 87 a (z3) (sA 85 a (264) σ8)).2.1 87 a = z3 from ra_eq]⟩
    have w46f : ∀ k ∈ [81, 82, 83], σ36.2.1 k = σ8.2.1 k := fun k hk => (F45.1 k (Or.inl ((by decide : ∀ k ∈ [81, 82, 83], k < 200) k hk)) ((by decide : ∀ k ∈ [81, 82, 83], k ∉ [512, 522, 523]) k hk)).trans (w46F.1 k (Or.inl ((by decide : ∀ k ∈ [81, 82, 83], k < 200) k hk)) ((by decide : ∀ k ∈ [81, 82, 83], k ∉ [85, 87]) k hk))
    have w46e : i57 = z3 := by omega
    have w46 := SCI.en (by rw [w46e] at f16; exact f16) (by omega) (by omega) (by rw [hSx, svC_out (by omega)]; decide) w46f w46k
    have w46t : TRW (sA 84 a (-1) σ36) a Sx (i46).toNat := w46.1.pt (by decide)
    have q47 : (sA 84 a (-1) σ36).2.1 84 a = -1 := ra_eq
    have q52 : (sA 84 a (-1) σ36).2.1 84 a = -1 := ra_eq
    refine tn_callV (M := m_X9_scan) (pc := 126) (ix := 48) (ci := 9) (M' := m_X9_next) (As := []) (rest := []) dX9_scan_126 ok_X9_next im_X9_next se_X9_next ml9_48 np_X9_next rfl rfl ha rfl (Nat.le_of_ble_eq_true rfl) (Nat.le_of_ble_eq_true rfl) rfl (k_X9_next_f0 (d + 1) (T := T) (σ := (sA 84 a (-1) σ36)) (a := a) ha (w44.put (by decide) (by decide) (fo_84 (by omega))) (fun q => absurd (q.symm.trans (ra_eq)) (by decide)) q47 w46t w46.2 (by omega)) (fun r48 T50 σ49 gt51 hp => ?_)
    obtain ⟨rfl, rfl, w58, F59, f53, f54, f55, f56⟩ := hp
    clear gt51
    show Tn _ _ 129 T σ49 [(0, .ref a), (1, .ref t), (3, .int (iI z3)), (4, .int (iI i46)), (5, .int (iI i57))] [] _
    exact tn_vret rfl dX9_scan_129 ⟨rfl, rfl, w58, (((((((FrC.rfl.put (by decide) (by decide)).trans (FrC.sub F12 (by decide))).put (by decide) (by decide)).put (by decide) (by decide)).trans (FrC.sub F45 (by decide))).put (by decide) (by decide)).trans (FrC.sub F59 (by decide))), f53, ⟨_, f56⟩⟩
end
section
set_option maxHeartbeats 4000000 in
set_option maxRecDepth 20000 in
theorem l_X5_settleCalls_f_2 (d : Nat) {T : CT} {σ0 : MS} {a : Nat} {Sx : Int → Int} {nx : Nat} {jx : Nat} {cx : CS} {post : Option Value → CT → MS → Prop} (h_a : OB T a 5) (hw0 : WT T σ0) (e42 : σ0.2.1 42 a = cx.cn) (e38 : σ0.2.1 38 a = cx.rn) (b42 : 0 ≤ cx.cn ∧ cx.cn ≤ 256) (b38 : 0 ≤ cx.rn ∧ cx.rn ≤ 256) (hx_82 : ∀ (i1 : Int) (σ : MS) , (WT T σ) → (FrC T [43, 44] σ0 σ) → (0 ≤ i1 ∧ i1 ≤ 256) → (0 ≤ i1 ∧ i1 ≤ cx.cn) → (RD0 σ a Sx nx jx (fpC (cnts (cSs cx (i1).toNat) cx.fp) cx)) → (cx.cn ≤ i1) → Tn (d + 3) m_X5_settleCalls 82 T σ [(0, .ref a), (1, .int (iI i1))] [] post) : ∀ (n : Nat) (i1 : Int) (σ : MS) , (WT T σ) → (FrC T [43, 44] σ0 σ) → (0 ≤ i1 ∧ i1 ≤ 256) → (0 ≤ i1 ∧ i1 ≤ cx.cn) → (RD0 σ a Sx nx jx (fpC (cnts (cSs cx (i1).toNat) cx.fp) cx)) → (2147483700 - i1).toNat = n → Tn (d + 3) m_X5_settleCalls 2 T σ [(0, .ref a), (1, .int (iI i1))] [] post := by
  intro n
  induction n using Nat.strongRecOn with
  | _ n ih =>
    intro i1 σ hw hF r_i1 h0 hst hm
    refine tn_iload_n dX5_settleCalls_2 rfl 1 rfl ?_
    refine tn_aload_n dX5_settleCalls_3 rfl 0 rfl ?_
    refine tn_getI (ci := 5) (i := 9) (n := 42) (t := σ0.2.1 42 a) dX5_settleCalls_4 rfl lay_5 (by decide) fl5_61 h_a rfl rfl (rc_F hF (Or.inl (by decide)) (by decide) (rfl)) ?_
    have g1 : ((0 : Int) ≤ σ0.2.1 42 a ∧ σ0.2.1 42 a ≤ 256) := wf_42 hw0 h_a
    refine tn_icmp_ge (tgt := 82) dX5_settleCalls_7 (by decide) ⟨by omega, by omega⟩ ⟨by omega, by omega⟩ (fun h2 => ?_) (fun h2 => ?_)
    · exact tn_sub [0, 1] rfl (hx_82 (i1) σ hw (FrC.rfl.trans (FrC.sub hF (by decide))) (by omega) (by omega) hst (by omega))
    · refine tn_aload_n dX5_settleCalls_10 rfl 0 rfl ?_
      refine tn_aload_n dX5_settleCalls_11 rfl 0 rfl ?_
      obtain ⟨x3, hx4, hk5, hl6⟩ : ∃ x : Nat, σ0.2.1 39 a = (x : Int) ∧ AR T x 18 256 256 := wf_39 hw0 h_a
      have hk5i : IA T x3 := by unfold IA; omega
      refine tn_getR (ci := 5) (i := 6) (n := 39) (x := x3) dX5_settleCalls_12 rfl lay_5 (by decide) fl5_31 h_a rfl rfl (rc_F hF (Or.inl (by decide)) (by decide) (hx4)) ?_
      refine tn_iload_n dX5_settleCalls_15 rfl 1 rfl ?_
      refine tn_callSN (M := m_X5_settleCalls) (pc := 16) (ix := 231) (M' := m_X11_at) (As := [.ref x3, .int (iI i1)]) (rest := [.ref a]) dX5_settleCalls_16 ok_X11_at stt_X11_at nl5_231 np_X11_at rfl (Nat.le_of_ble_eq_true rfl) (Nat.le_of_ble_eq_true rfl) rfl (k_X11_at (d + 1) (T := T) (σ := σ) (x := x3) (i := i1) hk5i (by omega) (by omega) hw ) (fun r7 T9 σ8 gt10 hp => ?_)
      obtain ⟨v14, rfl, rfl, rfl, f11, f12, f13⟩ := hp
      clear gt10
      show Tn _ _ 19 T σ [(0, .ref a), (1, .int (iI i1))] [.int (iI v14), .ref a] _
      refine tn_callV (M := m_X5_settleCalls) (pc := 19) (ix := 109) (ci := 5) (M' := m_X5_routineOf) (As := [.int (iI v14)]) (rest := []) dX5_settleCalls_19 ok_X5_routineOf im_X5_routineOf se_X5_routineOf ml5_109 np_X5_routineOf rfl rfl h_a rfl (Nat.le_of_ble_eq_true rfl) (Nat.le_of_ble_eq_true rfl) rfl (k_X5_routineOf_f (d) (T := T) (σ := σ) (a := a) (k := v14) h_a (by omega) hw ) (fun r15 T17 σ16 gt18 hp => ?_)
      obtain ⟨v21, rfl, rfl, rfl, f19, f20⟩ := hp
      clear gt18
      show Tn _ _ 22 T σ [(0, .ref a), (1, .int (iI i1))] [.int (iI v21)] _
      refine tn_istore_n (L' := [(2, .int (iI v21)), (0, .ref a), (1, .int (iI i1))]) dX5_settleCalls_22 rfl (by decide) rfl ?_
      refine tn_iload_n dX5_settleCalls_23 rfl 0 rfl ?_
      refine tn_iconst dX5_settleCalls_24 ?_
      refine tn_icmp_ne (tgt := 44) dX5_settleCalls_25 (by decide) ⟨by omega, by omega⟩ ⟨by decide, by decide⟩ (fun h22 => ?_) (fun h22 => ?_)
      · refine tn_aload_n dX5_settleCalls_44 rfl 1 rfl ?_
        obtain ⟨x23, hx24, hk25, hl26⟩ : ∃ x : Nat, σ0.2.1 37 a = (x : Int) ∧ AR T x 17 256 256 := wf_37 hw0 h_a
        have hk25i : IA T x23 := by unfold IA; omega
        refine tn_getR (ci := 5) (i := 4) (n := 37) (x := x23) dX5_settleCalls_45 rfl lay_5 (by decide) fl5_28 h_a rfl rfl (rc_F hF (Or.inl (by decide)) (by decide) (hx24)) ?_
        refine tn_iload_n dX5_settleCalls_48 rfl 0 rfl ?_
        refine tn_callSN (M := m_X5_settleCalls) (pc := 49) (ix := 231) (M' := m_X11_at) (As := [.ref x23, .int (iI v21)]) (rest := []) dX5_settleCalls_49 ok_X11_at stt_X11_at nl5_231 np_X11_at rfl (Nat.le_of_ble_eq_true rfl) (Nat.le_of_ble_eq_true rfl) rfl (k_X11_at (d + 1) (T := T) (σ := σ) (x := x23) (i := v21) hk25i (by omega) (by omega) hw ) (fun r27 T29 σ28 gt30 hp => ?_)
        obtain ⟨v34, rfl, rfl, rfl, f31, f32, f33⟩ := hp
        clear gt30
        show Tn _ _ 52 T σ [(2, .int (iI v21)), (0, .ref a), (1, .int (iI i1))] [.int (iI v34)] _
        refine tn_aload_n dX5_settleCalls_52 rfl 1 rfl ?_
        obtain ⟨x35, hx36, hk37, hl38⟩ : ∃ x : Nat, σ0.2.1 41 a = (x : Int) ∧ AR T x 20 256 256 := wf_41 hw0 h_a
        have hk37i : IA T x35 := by unfold IA; omega
        refine tn_getR (ci := 5) (i := 8) (n := 41) (x := x35) dX5_settleCalls_53 rfl lay_5 (by decide) fl5_37 h_a rfl rfl (rc_F hF (Or.inl (by decide)) (by decide) (hx36)) ?_
        refine tn_iload_n dX5_settleCalls_56 rfl 2 rfl ?_
        refine tn_callSN (M := m_X5_settleCalls) (pc := 57) (ix := 231) (M' := m_X11_at) (As := [.ref x35, .int (iI i1)]) (rest := [.int (iI v34)]) dX5_settleCalls_57 ok_X11_at stt_X11_at nl5_231 np_X11_at rfl (Nat.le_of_ble_eq_true rfl) (Nat.le_of_ble_eq_true rfl) rfl (k_X11_at (d + 1) (T := T) (σ := σ) (x := x35) (i := i1) hk37i (by omega) (by omega) hw ) (fun r39 T41 σ40 gt42 hp => ?_)
        obtain ⟨v46, rfl, rfl, rfl, f43, f44, f45⟩ := hp
        clear gt42
        show Tn _ _ 60 T σ [(2, .int (iI v21)), (0, .ref a), (1, .int (iI i1))] [.int (iI v46), .int (iI v34)] _
        refine tn_icmp_eq (tgt := 76) dX5_settleCalls_60 (by decide) ⟨by omega, by omega⟩ ⟨by omega, by omega⟩ (fun h47 => ?_) (fun h47 => ?_)
        · refine tn_iinc (q0 := 2) (L' := [(1, .int (iI (i1 + 1))), (2, .int (iI v21)), (0, .ref a)]) dX5_settleCalls_76 rfl (by decide) rfl ?_
          refine tn_goto (tgt := 2) dX5_settleCalls_79 (by decide) ?_
          have w49 := f13; unfold ATV at w49; rw [if_pos ⟨by omega, by omega⟩] at w49
          have z48h := hst
          have z48k : KW (v14) (cx.ck i1) := by rw [w49]; exact z48h.2.1.2.2.2.1 x3 (rc_F hF (Or.inl (by decide)) (by decide) (hx4)) i1 (by omega) (by show i1 < cx.cn; omega)
          have z48v := st_at (c := fpC (cnts (cSs cx i1.toNat) cx.fp) cx) f20 z48h.2.1 hw h_a z48k (by omega)
          have z48v2 : v21 < cx.rn := z48v.2.1
          have w50 := f33; unfold ATV at w50; rw [if_pos ⟨by omega, by omega⟩] at w50
          have w51 := f45; unfold ATV at w51; rw [if_pos ⟨by omega, by omega⟩] at w51
          have z48r : v34 = cx.rp v21 := by rw [w50]; exact z48h.2.1.2.2.1 x23 (rc_F hF (Or.inl (by decide)) (by decide) (hx24)) v21 (by omega) z48v2
          have z48q : v46 = cx.cc i1 := by rw [w51]; exact z48h.2.1.2.2.2.2.2 x35 (rc_F hF (Or.inl (by decide)) (by decide) (hx36)) i1 (by omega) (by show i1 < cx.cn; omega)
          have z48c : cS cx i1 = [] := st_eq (c := fpC (cnts (cSs cx i1.toNat) cx.fp) cx) f20 z48h.2.1 hw h_a z48k (by omega) (by show cx.rp v21 = cx.cc i1; omega)
          exact tn_sub [2, 0] rfl (ih _ (by omega) (i1 + 1) σ hw (FrC.rfl.trans (FrC.sub hF (by decide))) (by omega) (by omega) (RD0.qc hst (by rw [cSs_s cx (by omega), z48c]; rfl)) rfl)
        · refine tn_aload_n dX5_settleCalls_63 rfl 1 rfl ?_
          refine tn_iconst dX5_settleCalls_64 ?_
          refine tn_aload_n dX5_settleCalls_65 rfl 1 rfl ?_
          obtain ⟨x52, hx53, hk54, hl55⟩ : ∃ x : Nat, σ0.2.1 40 a = (x : Int) ∧ AR T x 19 256 256 := wf_40 hw0 h_a
          have hk54i : IA T x52 := by unfold IA; omega
          refine tn_getR (ci := 5) (i := 7) (n := 40) (x := x52) dX5_settleCalls_66 rfl lay_5 (by decide) fl5_34 h_a rfl rfl (rc_F hF (Or.inl (by decide)) (by decide) (hx53)) ?_
          refine tn_iload_n dX5_settleCalls_69 rfl 2 rfl ?_
          refine tn_callSN (M := m_X5_settleCalls) (pc := 70) (ix := 231) (M' := m_X11_at) (As := [.ref x52, .int (iI i1)]) (rest := [.int (iI 4), .ref a]) dX5_settleCalls_70 ok_X11_at stt_X11_at nl5_231 np_X11_at rfl (Nat.le_of_ble_eq_true rfl) (Nat.le_of_ble_eq_true rfl) rfl (k_X11_at (d + 1) (T := T) (σ := σ) (x := x52) (i := i1) hk54i (by omega) (by omega) hw ) (fun r56 T58 σ57 gt59 hp => ?_)
          obtain ⟨v63, rfl, rfl, rfl, f60, f61, f62⟩ := hp
          clear gt59
          show Tn _ _ 73 T σ [(2, .int (iI v21)), (0, .ref a), (1, .int (iI i1))] [.int (iI v63), .int (iI 4), .ref a] _
          refine tn_callV (M := m_X5_settleCalls) (pc := 73) (ix := 113) (ci := 5) (M' := m_X5_note) (As := [.int (iI 4), .int (iI v63)]) (rest := []) dX5_settleCalls_73 ok_X5_note im_X5_note se_X5_note ml5_113 np_X5_note rfl rfl h_a rfl (Nat.le_of_ble_eq_true rfl) (Nat.le_of_ble_eq_true rfl) rfl (k_X5_note_f (d + 1) (T := T) (σ := σ) (a := a) (f := 4) (p := v63) h_a (by decide) (by omega) hw ) (fun r64 T66 σ65 gt67 hp => ?_)
          obtain ⟨rfl, rfl, w70, F71, f68⟩ := hp
          clear gt67
          have fx72 : RD0 σ65 a Sx nx jx (fpC (cntN 4 (v63) (fpC (cnts (cSs cx i1.toNat) cx.fp) cx).fp) (fpC (cnts (cSs cx i1.toNat) cx.fp) cx)) := RD0.nt hst hw h_a F71 f68
          show Tn _ _ 76 T σ65 [(2, .int (iI v21)), (0, .ref a), (1, .int (iI i1))] [] _
          refine tn_iinc (q0 := 2) (L' := [(1, .int (iI (i1 + 1))), (2, .int (iI v21)), (0, .ref a)]) dX5_settleCalls_76 rfl (by decide) rfl ?_
          refine tn_goto (tgt := 2) dX5_settleCalls_79 (by decide) ?_
          have w74 := f13; unfold ATV at w74; rw [if_pos ⟨by omega, by omega⟩] at w74
          have z73h := hst
          have z73k : KW (v14) (cx.ck i1) := by rw [w74]; exact z73h.2.1.2.2.2.1 x3 (rc_F hF (Or.inl (by decide)) (by decide) (hx4)) i1 (by omega) (by show i1 < cx.cn; omega)
          have z73v := st_at (c := fpC (cnts (cSs cx i1.toNat) cx.fp) cx) f20 z73h.2.1 hw h_a z73k (by omega)
          have z73v2 : v21 < cx.rn := z73v.2.1
          have w75 := f33; unfold ATV at w75; rw [if_pos ⟨by omega, by omega⟩] at w75
          have w76 := f45; unfold ATV at w76; rw [if_pos ⟨by omega, by omega⟩] at w76
          have z73r : v34 = cx.rp v21 := by rw [w75]; exact z73h.2.1.2.2.1 x23 (rc_F hF (Or.inl (by decide)) (by decide) (hx24)) v21 (by omega) z73v2
          have z73q : v46 = cx.cc i1 := by rw [w76]; exact z73h.2.1.2.2.2.2.2 x35 (rc_F hF (Or.inl (by decide)) (by decide) (hx36)) i1 (by omega) (by show i1 < cx.cn; omega)
          have z73c : cS cx i1 = [(cx.cp i1, 4)] := st_ne (c := fpC (cnts (cSs cx i1.toNat) cx.fp) cx) f20 z73h.2.1 hw h_a z73k (by omega) (by show cx.rp v21 ≠ cx.cc i1; omega)
          have w77 := f62; unfold ATV at w77; rw [if_pos ⟨by omega, by omega⟩] at w77
          have z73p : v63 = cx.cp i1 := by rw [w77]; exact z73h.2.1.2.2.2.2.1 x52 (rc_F hF (Or.inl (by decide)) (by decide) (hx53)) i1 (by omega) (by show i1 < cx.cn; omega)
          exact tn_sub [2, 0] rfl (ih _ (by omega) (i1 + 1) σ65 w70 ((FrC.rfl.trans (FrC.sub hF (by decide))).trans (FrC.sub F71 (by decide))) (by omega) (by omega) (RD0.qc fx72 (by rw [cSs_s cx (by omega), z73c, z73p]; rfl)) rfl)
      · refine tn_aload_n dX5_settleCalls_28 rfl 1 rfl ?_
        refine tn_iconst dX5_settleCalls_29 ?_
        refine tn_aload_n dX5_settleCalls_30 rfl 1 rfl ?_
        obtain ⟨x78, hx79, hk80, hl81⟩ : ∃ x : Nat, σ0.2.1 40 a = (x : Int) ∧ AR T x 19 256 256 := wf_40 hw0 h_a
        have hk80i : IA T x78 := by unfold IA; omega
        refine tn_getR (ci := 5) (i := 7) (n := 40) (x := x78) dX5_settleCalls_31 rfl lay_5 (by decide) fl5_34 h_a rfl rfl (rc_F hF (Or.inl (by decide)) (by decide) (hx79)) ?_
        refine tn_iload_n dX5_settleCalls_34 rfl 2 rfl ?_
        refine tn_callSN (M := m_X5_settleCalls) (pc := 35) (ix := 231) (M' := m_X11_at) (As := [.ref x78, .int (iI i1)]) (rest := [.int (iI 3), .ref a]) dX5_settleCalls_35 ok_X11_at stt_X11_at nl5_231 np_X11_at rfl (Nat.le_of_ble_eq_true rfl) (Nat.le_of_ble_eq_true rfl) rfl (k_X11_at (d + 1) (T := T) (σ := σ) (x := x78) (i := i1) hk80i (by omega) (by omega) hw ) (fun r82 T84 σ83 gt85 hp => ?_)
        obtain ⟨v89, rfl, rfl, rfl, f86, f87, f88⟩ := hp
        clear gt85
        show Tn _ _ 38 T σ [(2, .int (iI v21)), (0, .ref a), (1, .int (iI i1))] [.int (iI v89), .int (iI 3), .ref a] _
        refine tn_callV (M := m_X5_settleCalls) (pc := 38) (ix := 113) (ci := 5) (M' := m_X5_note) (As := [.int (iI 3), .int (iI v89)]) (rest := []) dX5_settleCalls_38 ok_X5_note im_X5_note se_X5_note ml5_113 np_X5_note rfl rfl h_a rfl (Nat.le_of_ble_eq_true rfl) (Nat.le_of_ble_eq_true rfl) rfl (k_X5_note_f (d + 1) (T := T) (σ := σ) (a := a) (f := 3) (p := v89) h_a (by decide) (by omega) hw ) (fun r90 T92 σ91 gt93 hp => ?_)
        obtain ⟨rfl, rfl, w96, F97, f94⟩ := hp
        clear gt93
        have fx98 : RD0 σ91 a Sx nx jx (fpC (cntN 3 (v89) (fpC (cnts (cSs cx i1.toNat) cx.fp) cx).fp) (fpC (cnts (cSs cx i1.toNat) cx.fp) cx)) := RD0.nt hst hw h_a F97 f94
        show Tn _ _ 41 T σ91 [(2, .int (iI v21)), (0, .ref a), (1, .int (iI i1))] [] _
        refine tn_goto (tgt := 76) dX5_settleCalls_41 (by decide) ?_
        refine tn_iinc (q0 := 2) (L' := [(1, .int (iI (i1 + 1))), (2, .int (iI v21)), (0, .ref a)]) dX5_settleCalls_76 rfl (by decide) rfl ?_
        refine tn_goto (tgt := 2) dX5_settleCalls_79 (by decide) ?_
        have w100 := f13; unfold ATV at w100; rw [if_pos ⟨by omega, by omega⟩] at w100
        have z99h := hst
        have z99k : KW (v14) (cx.ck i1) := by rw [w100]; exact z99h.2.1.2.2.2.1 x3 (rc_F hF (Or.inl (by decide)) (by decide) (hx4)) i1 (by omega) (by show i1 < cx.cn; omega)
        have z99c : cS cx i1 = [(cx.cp i1, 3)] := st_no (c := fpC (cnts (cSs cx i1.toNat) cx.fp) cx) f20 z99h.2.1 hw h_a z99k (by omega)
        have w101 := f88; unfold ATV at w101; rw [if_pos ⟨by omega, by omega⟩] at w101
        have z99p : v89 = cx.cp i1 := by rw [w101]; exact z99h.2.1.2.2.2.2.1 x78 (rc_F hF (Or.inl (by decide)) (by decide) (hx79)) i1 (by omega) (by show i1 < cx.cn; omega)
        exact tn_sub [2, 0] rfl (ih _ (by omega) (i1 + 1) σ91 w96 ((FrC.rfl.trans (FrC.sub hF (by decide))).trans (FrC.sub F97 (by decide))) (by omega) (by omega) (RD0.qc fx98 (by rw [cSs_s cx (by omega), z99c, z99p]; rfl)) rfl)
set_option maxHeartbeats 4000000 in
set_option maxRecDepth 20000 in
theorem l_X5_settleCalls_f_117 (d : Nat) {T : CT} {σ0 : MS} {a : Nat} {c1 : Int} {rx2 : Nat} {post : Option Value → CT → MS → Prop} (h_a : OB T a 5) (r_c1 : 0 ≤ c1 ∧ c1 ≤ 6) (h_rx2 : OB T rx2 1) (t_rx2 : (T rx2).1 = 31) (hw0 : WT T σ0) (hx_162 : ∀ (i3 : Int) (σ : MS) , (WT T σ) → (FrC T [] σ0 σ) → (0 ≤ i3 ∧ i3 ≤ 2147483647) → Tn (d + 3) m_X5_settleCalls 162 T σ [(0, .ref a), (1, .int (iI c1)), (2, .ref rx2), (3, .int (iI i3))] [] post) : ∀ (n : Nat) (i3 : Int) (σ : MS) , (WT T σ) → (FrC T [] σ0 σ) → (0 ≤ i3 ∧ i3 ≤ 2147483647) → (2147483700 - i3).toNat = n → Tn (d + 3) m_X5_settleCalls 117 T σ [(0, .ref a), (1, .int (iI c1)), (2, .ref rx2), (3, .int (iI i3))] [] post := by
  intro n
  induction n using Nat.strongRecOn with
  | _ n ih =>
    intro i3 σ hw hF r_i3 hm
    refine tn_aload_n dX5_settleCalls_117 rfl 2 rfl ?_
    refine tn_ifnull dX5_settleCalls_118 ?_
    refine tn_iload_n dX5_settleCalls_121 rfl 3 rfl ?_
    refine tn_aload_n dX5_settleCalls_122 rfl 2 rfl ?_
    refine tn_getI (ci := 1) (i := 1) (n := 6) (t := σ0.2.1 6 rx2) dX5_settleCalls_123 rfl lay_1 (by decide) fl5_146 h_rx2 rfl rfl (rc_F hF (Or.inl (by decide)) (by decide) (rfl)) ?_
    have g1 : ((0 : Int) ≤ σ0.2.1 6 rx2 ∧ σ0.2.1 6 rx2 ≤ 5000) ∧ ((T rx2).1 = 50 → σ0.2.1 6 rx2 ≤ 200) := wf_6 hw0 h_rx2
    have g1x := g1.2
    replace g1 := g1.1
    clear g1x
    refine tn_icmp_ge (tgt := 162) dX5_settleCalls_126 (by decide) ⟨by omega, by omega⟩ ⟨by omega, by omega⟩ (fun h2 => ?_) (fun h2 => ?_)
    · exact tn_sub [0, 1, 2, 3] rfl (hx_162 (i3) σ hw (FrC.rfl.trans (FrC.sub hF (by decide))) (by omega))
    · refine tn_aload_n dX5_settleCalls_129 rfl 2 rfl ?_
      refine tn_iload_n dX5_settleCalls_130 rfl 3 rfl ?_
      refine tn_iconst dX5_settleCalls_131 ?_
      refine tn_callV (M := m_X5_settleCalls) (pc := 132) (ix := 164) (ci := 1) (M' := m_X1_get) (As := [.int (iI i3), .int (iI 0)]) (rest := []) dX5_settleCalls_132 ok_X1_get im_X1_get se_X1_get ml5_164 np_X1_get rfl rfl h_rx2 rfl (Nat.le_of_ble_eq_true rfl) (Nat.le_of_ble_eq_true rfl) rfl (k_X1_get (d + 1) (T := T) (σ := σ) (a := rx2) (k := i3) (c := 0) h_rx2 (by omega) (by decide) hw (by omega)) (fun r3 T5 σ4 gt6 hp => ?_)
      obtain ⟨v8, rfl, rfl, rfl, f7⟩ := hp
      clear gt6
      show Tn _ _ 135 T σ [(0, .ref a), (1, .int (iI c1)), (2, .ref rx2), (3, .int (iI i3))] [.int (iI v8)] _
      refine tn_bipush dX5_settleCalls_135 (by decide) ?_
      refine tn_icmp_ne (tgt := 156) dX5_settleCalls_137 (by decide) ⟨by omega, by omega⟩ ⟨by decide, by decide⟩ (fun h9 => ?_) (fun h9 => ?_)
      · refine tn_iinc (q0 := 3) (L' := [(3, .int (iI (i3 + 1))), (0, .ref a), (1, .int (iI c1)), (2, .ref rx2)]) dX5_settleCalls_156 rfl (by decide) rfl ?_
        refine tn_goto (tgt := 117) dX5_settleCalls_159 (by decide) ?_
        exact tn_sub [1, 2, 3, 0] rfl (ih _ (by omega) (i3 + 1) σ hw (FrC.rfl.trans (FrC.sub hF (by decide))) (by omega) rfl)
      · refine tn_aload_n dX5_settleCalls_140 rfl 2 rfl ?_
        refine tn_iload_n dX5_settleCalls_141 rfl 3 rfl ?_
        refine tn_iconst dX5_settleCalls_142 ?_
        refine tn_aload_n dX5_settleCalls_143 rfl 0 rfl ?_
        refine tn_aload_n dX5_settleCalls_144 rfl 2 rfl ?_
        refine tn_iload_n dX5_settleCalls_145 rfl 3 rfl ?_
        refine tn_iconst dX5_settleCalls_146 ?_
        refine tn_callV (M := m_X5_settleCalls) (pc := 147) (ix := 164) (ci := 1) (M' := m_X1_get) (As := [.int (iI i3), .int (iI 2)]) (rest := [.ref a, .int (iI 2), .int (iI i3), .ref rx2]) dX5_settleCalls_147 ok_X1_get im_X1_get se_X1_get ml5_164 np_X1_get rfl rfl h_rx2 rfl (Nat.le_of_ble_eq_true rfl) (Nat.le_of_ble_eq_true rfl) rfl (k_X1_get (d + 1) (T := T) (σ := σ) (a := rx2) (k := i3) (c := 2) h_rx2 (by omega) (by decide) hw (by omega)) (fun r10 T12 σ11 gt13 hp => ?_)
        obtain ⟨v15, rfl, rfl, rfl, f14⟩ := hp
        clear gt13
        show Tn _ _ 150 T σ [(0, .ref a), (1, .int (iI c1)), (2, .ref rx2), (3, .int (iI i3))] [.int (iI v15), .ref a, .int (iI 2), .int (iI i3), .ref rx2] _
        refine tn_callV (M := m_X5_settleCalls) (pc := 150) (ix := 109) (ci := 5) (M' := m_X5_routineOf) (As := [.int (iI v15)]) (rest := [.int (iI 2), .int (iI i3), .ref rx2]) dX5_settleCalls_150 ok_X5_routineOf im_X5_routineOf se_X5_routineOf ml5_109 np_X5_routineOf rfl rfl h_a rfl (Nat.le_of_ble_eq_true rfl) (Nat.le_of_ble_eq_true rfl) rfl (k_X5_routineOf_f (d) (T := T) (σ := σ) (a := a) (k := v15) h_a (by omega) hw ) (fun r16 T18 σ17 gt19 hp => ?_)
        obtain ⟨v22, rfl, rfl, rfl, f20, f21⟩ := hp
        clear gt19
        show Tn _ _ 153 T σ [(0, .ref a), (1, .int (iI c1)), (2, .ref rx2), (3, .int (iI i3))] [.int (iI v22), .int (iI 2), .int (iI i3), .ref rx2] _
        refine tn_callV (M := m_X5_settleCalls) (pc := 153) (ix := 167) (ci := 1) (M' := m_X1_set) (As := [.int (iI i3), .int (iI 2), .int (iI v22)]) (rest := []) dX5_settleCalls_153 ok_X1_set im_X1_set se_X1_set ml5_167 np_X1_set rfl rfl h_rx2 rfl (Nat.le_of_ble_eq_true rfl) (Nat.le_of_ble_eq_true rfl) rfl (k_X1_set (d + 1) (T := T) (σ := σ) (a := rx2) (k := i3) (c := 2) (y := v22) h_rx2 (by omega) (by decide) (by omega) hw (by omega) (by omega)) (fun r23 T25 σ24 gt26 hp => ?_)
        obtain ⟨rfl, rfl, w28, F29⟩ := hp
        clear gt26
        show Tn _ _ 156 T σ24 [(0, .ref a), (1, .int (iI c1)), (2, .ref rx2), (3, .int (iI i3))] [] _
        refine tn_iinc (q0 := 3) (L' := [(3, .int (iI (i3 + 1))), (0, .ref a), (1, .int (iI c1)), (2, .ref rx2)]) dX5_settleCalls_156 rfl (by decide) rfl ?_
        refine tn_goto (tgt := 117) dX5_settleCalls_159 (by decide) ?_
        exact tn_sub [1, 2, 3, 0] rfl (ih _ (by omega) (i3 + 1) σ24 w28 ((FrC.rfl.trans (FrC.sub hF (by decide))).trans (FrC.sub F29 (by decide))) (by omega) rfl)
set_option maxHeartbeats 4000000 in
set_option maxRecDepth 20000 in
theorem l_X5_settleCalls_f_84 (d : Nat) {T : CT} {σ0 : MS} {a : Nat} {post : Option Value → CT → MS → Prop} (h_a : OB T a 5) (hw0 : WT T σ0) (hx_168 : ∀ (i1 : Int) (σ : MS) , (WT T σ) → (FrC T [] σ0 σ) → (0 ≤ i1 ∧ i1 ≤ 2147483647) → Tn (d + 3) m_X5_settleCalls 168 T σ [(0, .ref a), (1, .int (iI i1))] [] post) : ∀ (n : Nat) (i1 : Int) (σ : MS) , (WT T σ) → (FrC T [] σ0 σ) → (0 ≤ i1 ∧ i1 ≤ 2147483647) → (2147483700 - i1).toNat = n → Tn (d + 3) m_X5_settleCalls 84 T σ [(0, .ref a), (1, .int (iI i1))] [] post := by
  intro n
  induction n using Nat.strongRecOn with
  | _ n ih =>
    intro i1 σ hw hF r_i1 hm
    refine tn_aload_n dX5_settleCalls_84 rfl 0 rfl ?_
    refine tn_getI (ci := 5) (i := 10) (n := 43) (t := σ0.2.1 43 a) dX5_settleCalls_85 rfl lay_5 (by decide) fl5_51 h_a rfl rfl (rc_F hF (Or.inl (by decide)) (by decide) (rfl)) ?_
    have g1 : ((-2147483648 : Int) ≤ σ0.2.1 43 a ∧ σ0.2.1 43 a ≤ 2147483647) := wf_43 hw0 h_a
    refine tn_if_ne (tgt := 168) dX5_settleCalls_88 (by decide) ⟨by omega, by omega⟩ (fun h2 => ?_) (fun h2 => ?_)
    · exact tn_sub [0, 1] rfl (hx_168 (i1) σ hw (FrC.rfl.trans (FrC.sub hF (by decide))) (by omega))
    · refine tn_iload_n dX5_settleCalls_91 rfl 1 rfl ?_
      refine tn_aload_n dX5_settleCalls_92 rfl 0 rfl ?_
      refine tn_getI (ci := 5) (i := 5) (n := 38) (t := σ0.2.1 38 a) dX5_settleCalls_93 rfl lay_5 (by decide) fl5_58 h_a rfl rfl (rc_F hF (Or.inl (by decide)) (by decide) (rfl)) ?_
      have g3 : ((0 : Int) ≤ σ0.2.1 38 a ∧ σ0.2.1 38 a ≤ 256) := wf_38 hw0 h_a
      refine tn_icmp_ge (tgt := 168) dX5_settleCalls_96 (by decide) ⟨by omega, by omega⟩ ⟨by omega, by omega⟩ (fun h4 => ?_) (fun h4 => ?_)
      · exact tn_sub [0, 1] rfl (hx_168 (i1) σ hw (FrC.rfl.trans (FrC.sub hF (by decide))) (by omega))
      · refine tn_iload_n dX5_settleCalls_99 rfl 1 rfl ?_
        refine tn_aload_n dX5_settleCalls_100 rfl 0 rfl ?_
        obtain ⟨x5, hx6, hk7, hl8⟩ : ∃ x : Nat, σ0.2.1 34 a = (x : Int) ∧ AR T x 4 7 7 := wf_34 hw0 h_a
        have hk7i : (T x5).1 = 4 ∨ (T x5).1 = 5 := by omega
        refine tn_getR (ci := 5) (i := 1) (n := 34) (x := x5) dX5_settleCalls_101 rfl lay_5 (by decide) fl5_20 h_a rfl rfl (rc_F hF (Or.inl (by decide)) (by decide) (hx6)) ?_
        refine tn_alenX dX5_settleCalls_104 (by have q9 := hk7i; omega) ?_
        refine tn_icmp_ge (tgt := 168) dX5_settleCalls_105 (by decide) ⟨by omega, by omega⟩ ⟨by omega, by omega⟩ (fun h9 => ?_) (fun h9 => ?_)
        · exact tn_sub [0, 1] rfl (hx_168 (i1) σ hw (FrC.rfl.trans (FrC.sub hF (by decide))) (by omega))
        · refine tn_aload_n dX5_settleCalls_108 rfl 0 rfl ?_
          refine tn_getR (ci := 5) (i := 1) (n := 34) (x := x5) dX5_settleCalls_109 rfl lay_5 (by decide) fl5_20 h_a rfl rfl (rc_F hF (Or.inl (by decide)) (by decide) (hx6)) ?_
          refine tn_iload_n dX5_settleCalls_112 rfl 1 rfl ?_
          obtain ⟨x10, hx11, hk12⟩ := (hw).2.2.2.1.1 x5 hk7 (i1) (by omega) (by omega)
          refine tn_aald (z := i1) (x := x10) dX5_settleCalls_113 hk7i (by omega) (by omega) (by omega) hx11 ?_
          have hk12o : OB T x10 1 := ⟨by omega, by rw [hk12]; rfl, by omega⟩
          refine tn_astore_n (L' := [(2, .ref x10), (0, .ref a), (1, .int (iI i1))]) dX5_settleCalls_114 rfl (by decide) rfl ?_
          refine tn_iconst dX5_settleCalls_115 ?_
          refine tn_istore_n (L' := [(3, .int (iI 0)), (2, .ref x10), (0, .ref a), (1, .int (iI i1))]) dX5_settleCalls_116 rfl (by decide) rfl ?_
          refine tn_sub [2, 3, 1, 0] rfl (l_X5_settleCalls_f_117 (d) (T := T) (σ0 := σ) (a := a) (c1 := i1) (rx2 := x10) h_a (by omega) hk12o hk12 hw (fun i313 σ14 w17 F18 r19 => ?_) _ (0) σ hw FrC.rfl (by omega) rfl)
          show Tn _ _ 162 T σ14 [(0, .ref a), (1, .int (iI i1)), (2, .ref x10), (3, .int (iI i313))] [] _
          refine tn_iinc (q0 := 1) (L' := [(1, .int (iI (i1 + 1))), (0, .ref a), (2, .ref x10), (3, .int (iI i313))]) dX5_settleCalls_162 rfl (by decide) rfl ?_
          refine tn_goto (tgt := 84) dX5_settleCalls_165 (by decide) ?_
          exact tn_sub [1, 0] rfl (ih _ (by omega) (i1 + 1) σ14 w17 ((FrC.rfl.trans (FrC.sub hF (by decide))).trans (FrC.sub F18 (by decide))) (by omega) rfl)
set_option maxHeartbeats 4000000 in
set_option maxRecDepth 20000 in
theorem k_X5_settleCalls_f (d : Nat) {T : CT} {σ : MS} {a : Nat} {Sx : Int → Int} {nx jx : Nat} {cx : CS} (ha : OB T a 5) (hw : WT T σ) (hf0 : RD0 σ a Sx nx jx cx) : Tn (d + 3) m_X5_settleCalls 0 T σ [(0, .ref a)] [] (fun ro T2 σ2 => ∃ v : Int, ro = some (.int (iI v)) ∧ T = T2 ∧ WT T2 σ2 ∧ FrC T [43, 44] σ σ2 ∧ (v = 0 ∨ v = 1) ∧ (SQ9 σ2 a cx v)) := by
  have hSb := hf0.sb
  have e42 : σ.2.1 42 a = cx.cn := hf0.2.1.1.2.2.2.1
  have e38 : σ.2.1 38 a = cx.rn := hf0.2.1.1.2.2.1
  have b38 := wf_38 hw ha
  have b42 := wf_42 hw ha
  refine tn_iconst dX5_settleCalls_0 ?_
  refine tn_istore_n (L' := [(1, .int (iI 0)), (0, .ref a)]) dX5_settleCalls_1 rfl (by decide) rfl ?_
  refine tn_sub [1, 0] rfl (l_X5_settleCalls_f_2 (d) (T := T) (σ0 := σ) (a := a) (Sx := Sx) (nx := nx) (jx := jx) (cx := cx) ha hw e42 e38 (by omega) (by omega) (fun i11 σ2 w5 F6 r7 f8 f9 f10 => ?_) _ (0) σ hw FrC.rfl (by omega) (by omega) hf0 rfl)
  show Tn _ _ 82 T σ2 [(0, .ref a), (1, .int (iI i11))] [] _
  refine tn_iconst dX5_settleCalls_82 ?_
  refine tn_istore_n (L' := [(1, .int (iI 0)), (0, .ref a)]) dX5_settleCalls_83 rfl (by decide) rfl ?_
  refine tn_sub [1, 0] rfl (l_X5_settleCalls_f_84 (d) (T := T) (σ0 := σ2) (a := a) ha w5 (fun i111 σ12 w15 F16 r17 => ?_) _ (0) σ2 w5 FrC.rfl (by omega) rfl)
  show Tn _ _ 168 T σ12 [(0, .ref a), (1, .int (iI i111))] [] _
  refine tn_aload_n dX5_settleCalls_168 rfl 0 rfl ?_
  refine tn_getI (ci := 5) (i := 10) (n := 43) (t := σ2.2.1 43 a) dX5_settleCalls_169 rfl lay_5 (by decide) fl5_51 ha rfl rfl (rc_F F16 (Or.inl (by decide)) (by decide) (rfl)) ?_
  have g18 : ((-2147483648 : Int) ≤ σ2.2.1 43 a ∧ σ2.2.1 43 a ≤ 2147483647) := wf_43 w5 ha
  refine tn_if_ne (tgt := 179) dX5_settleCalls_172 (by decide) ⟨by omega, by omega⟩ (fun h19 => ?_) (fun h19 => ?_)
  · refine tn_iconst dX5_settleCalls_179 ?_
    have w20 : RD0 σ2 a Sx nx jx (fpC (cnts (cSs cx cx.cn.toNat) cx.fp) cx) := RD0.qc f9 (by rw [show i11 = cx.cn by omega])
    have w20p : (σ12.2.1 43 a, σ12.2.1 44 a) = cnts (cSs cx cx.cn.toNat) cx.fp := by rw [show σ12.2.1 43 a = σ2.2.1 43 a from rc_F F16 (Or.inl (by decide)) (by decide) (rfl), show σ12.2.1 44 a = σ2.2.1 44 a from rc_F F16 (Or.inl (by decide)) (by decide) (rfl)]; exact w20.2.1.fp2
    have w208 : σ12.2.1 38 a = cx.rn := (rc_F F16 (Or.inl (by decide)) (by decide) (rc_F F6 (Or.inl (by decide)) (by decide) (rfl))).trans (show σ.2.1 38 a = cx.rn from hf0.2.1.1.2.2.1)
    have w203 : σ12.2.1 43 a = σ2.2.1 43 a := rc_F F16 (Or.inl (by decide)) (by decide) (rfl)
    exact tn_zret (v := 0) rfl (by decide) dX5_settleCalls_180 ⟨_, rfl, rfl, w15, ((FrC.rfl.trans (FrC.sub F6 (by decide))).trans (FrC.sub F16 (by decide))), by omega, ⟨w20p, w208, fun q => absurd q (by decide), fun _ => by rw [w203]; omega⟩⟩
  · refine tn_iconst dX5_settleCalls_175 ?_
    refine tn_goto (tgt := 180) dX5_settleCalls_176 (by decide) ?_
    have w21 : RD0 σ2 a Sx nx jx (fpC (cnts (cSs cx cx.cn.toNat) cx.fp) cx) := RD0.qc f9 (by rw [show i11 = cx.cn by omega])
    have w21p : (σ12.2.1 43 a, σ12.2.1 44 a) = cnts (cSs cx cx.cn.toNat) cx.fp := by rw [show σ12.2.1 43 a = σ2.2.1 43 a from rc_F F16 (Or.inl (by decide)) (by decide) (rfl), show σ12.2.1 44 a = σ2.2.1 44 a from rc_F F16 (Or.inl (by decide)) (by decide) (rfl)]; exact w21.2.1.fp2
    have w218 : σ12.2.1 38 a = cx.rn := (rc_F F16 (Or.inl (by decide)) (by decide) (rc_F F6 (Or.inl (by decide)) (by decide) (rfl))).trans (show σ.2.1 38 a = cx.rn from hf0.2.1.1.2.2.1)
    have w213 : σ12.2.1 43 a = σ2.2.1 43 a := rc_F F16 (Or.inl (by decide)) (by decide) (rfl)
    exact tn_zret (v := 1) rfl (by decide) dX5_settleCalls_180 ⟨_, rfl, rfl, w15, ((FrC.rfl.trans (FrC.sub F6 (by decide))).trans (FrC.sub F16 (by decide))), by omega, ⟨w21p, w218, fun _ => by rw [w213]; omega, fun q => absurd q (by decide)⟩⟩
end
section
set_option maxHeartbeats 4000000 in
set_option maxRecDepth 20000 in
theorem l_X5_take_f_36 (d : Nat) {T0 : CT} {σ0 : MS} {a : Nat} {Sx : Int → Int} {nx : Nat} {post : Option Value → CT → MS → Prop} (hw0 : WT T0 σ0) (hx_80 : ∀ (T : CT) (i3 : Int) (σ : MS) , (GT T0 T) → (WT T σ) → (FrC T0 [5, 6, 7, 8, 9, 10, 35, 38, 42, 43, 44, 45, 46, 47, 50, 51, 84, 85, 86, 87, 516, 517, 518, 519, 520, 521] σ0 σ) → (OB T a 5) → (0 ≤ i3 ∧ i3 ≤ 2147483647) → (True) → (True) → (TLF σ a Sx) → Tn (d + 79) m_X5_take 80 T σ [(0, .ref a), (3, .int (iI i3))] [] post) (hx_94 : ∀ (T : CT) (i3 : Int) (σ : MS) , (GT T0 T) → (WT T σ) → (FrC T0 [5, 6, 7, 8, 9, 10, 35, 38, 42, 43, 44, 45, 46, 47, 50, 51, 84, 85, 86, 87, 516, 517, 518, 519, 520, 521] σ0 σ) → (OB T a 5) → (0 ≤ i3 ∧ i3 ≤ 2147483647) → (True) → (True) → (TLX σ a Sx nx) → Tn (d + 79) m_X5_take 94 T σ [(0, .ref a), (3, .int (iI i3))] [] post) : ∀ (n : Nat) (T : CT) (i3 : Int) (σ : MS) , (GT T0 T) → (WT T σ) → (FrC T0 [5, 6, 7, 8, 9, 10, 35, 38, 42, 43, 44, 45, 46, 47, 50, 51, 84, 85, 86, 87, 516, 517, 518, 519, 520, 521] σ0 σ) → (OB T a 5) → (0 ≤ i3 ∧ i3 ≤ 2147483647) → (RT σ a) → (TLI σ a Sx nx (5 * i3)) → (2147483700 - i3).toNat = n → Tn (d + 79) m_X5_take 36 T σ [(0, .ref a), (3, .int (iI i3))] [] post := by
  intro n
  induction n using Nat.strongRecOn with
  | _ n ih =>
    intro T i3 σ hG hw hF h_a r_i3 hrt hx hm
    obtain ⟨jy, ey, Ny, loy, try9, hfy, h5y, hmy⟩ := hx
    have hSb := hfy.sb
    have hjn := RD0.jn hfy hw h_a
    have e38 := hfy.2.1.1.2.2.1
    have e45 := hfy.2.1.1.2.2.2.2
    have b38 := wf_38 hw h_a
    refine tn_iload_n dX5_take_36 rfl 1 rfl ?_
    refine tn_sipush dX5_take_37 (by decide) ?_
    refine tn_icmp_ge (tgt := 94) dX5_take_40 (by decide) ⟨by omega, by omega⟩ ⟨by decide, by decide⟩ (fun h1 => ?_) (fun h1 => ?_)
    · exact tn_sub [0, 1] rfl (hx_94 T (i3) σ hG hw (FrC.rfl.trans (FrC.sub hF (by decide))) h_a (by omega) True.intro True.intro (False.elim (by omega)))
    · refine tn_aload_n dX5_take_43 rfl 0 rfl ?_
      obtain ⟨x2, hx3, hk4⟩ : ∃ x : Nat, σ.2.1 33 a = (x : Int) ∧ (T x).1 = 39 := wf_33 hw h_a
      have hk4o : OB T x2 9 := ⟨by omega, by rw [hk4]; rfl, by omega⟩
      refine tn_getR (ci := 5) (i := 0) (n := 33) (x := x2) dX5_take_44 rfl lay_5 (by decide) fl5_12 h_a rfl rfl (hx3) ?_
      refine tn_getI (ci := 9) (i := 4) (n := 85) (t := σ.2.1 85 x2) dX5_take_47 rfl lay_9 (by decide) fl5_71 hk4o rfl rfl (rfl) ?_
      have g6 : ((-2147483648 : Int) ≤ σ.2.1 85 x2 ∧ σ.2.1 85 x2 ≤ 2147483647) := wf_85 hw hk4o
      have g6kd : σ.2.1 85 x2 = ckd (tkS Sx jy) := (rfl).symm.trans ((hfy).kd (hx3))
      refine tn_sipush dX5_take_50 (by decide) ?_
      refine tn_icmp_eq (tgt := 94) dX5_take_53 (by decide) ⟨by omega, by omega⟩ ⟨by decide, by decide⟩ (fun h7 => ?_) (fun h7 => ?_)
      · exact tn_sub [0, 1] rfl (hx_94 T (i3) σ hG hw (FrC.rfl.trans (FrC.sub hF (by decide))) h_a (by omega) True.intro True.intro ⟨jy, ey, Ny, try9, hfy, by omega⟩)
      · have hk9 : ckd (tkS Sx jy) ≠ 264 := by omega
        refine tn_aload_n dX5_take_56 rfl 0 rfl ?_
        refine tn_getR (ci := 5) (i := 0) (n := 33) (x := x2) dX5_take_57 rfl lay_5 (by decide) fl5_12 h_a rfl rfl (hx3) ?_
        refine tn_getI (ci := 9) (i := 6) (n := 87) (t := σ.2.1 87 x2) dX5_take_60 rfl lay_9 (by decide) fl5_74 hk4o rfl rfl (rfl) ?_
        have g8 : ((-2147483648 : Int) ≤ σ.2.1 87 x2 ∧ σ.2.1 87 x2 ≤ 2147483647) := wf_87 hw hk4o
        have g8pl : σ.2.1 87 x2 = (tkS Sx jy).1 := (rfl).symm.trans ((hfy).pl (hx3))
        refine tn_istore (L' := [(4, .int (iI (σ.2.1 87 x2))), (0, .ref a), (3, .int (iI i3))]) dX5_take_63 (by decide) rfl ?_
        refine tn_aload_n dX5_take_65 rfl 1 rfl ?_
        refine tn_callV (M := m_X5_take) (pc := 66) (ix := 75) (ci := 5) (M' := m_X5_header) (As := []) (rest := []) dX5_take_66 ok_X5_header im_X5_header se_X5_header ml5_75 np_X5_header rfl rfl h_a rfl (Nat.le_of_ble_eq_true rfl) (Nat.le_of_ble_eq_true rfl) rfl (k_X5_header_f (d + 73) (T := T) (σ := σ) (a := a) h_a hw hrt hfy h5y (by omega)) (fun r9 T11 σ10 gt12 hp => ?_)
        obtain ⟨v16, rfl, rfl, w17, F18, f13, f14, f15⟩ := hp
        clear gt12
        show Tn _ _ 69 T σ10 [(4, .int (iI (σ.2.1 87 x2))), (0, .ref a), (3, .int (iI i3))] [.int (iI v16)] _
        refine tn_if_eq (tgt := 80) dX5_take_69 (by decide) ⟨by omega, by omega⟩ (fun h19 => ?_) (fun h19 => ?_)
        · obtain ⟨pl20, g21, fx22⟩ := f15.2 (by omega)
          exact tn_sub [1, 2] rfl (hx_80 T (i3) σ10 hG w17 ((FrC.rfl.trans (FrC.sub hF (by decide))).trans (FrC.sub (FrC.old F18 hG) (by decide))) h_a (by omega) True.intro True.intro ⟨_, TR9.fh hSb try9 hk9 g21, fx22⟩)
        · have rp23 := f14 (by omega)
          obtain ⟨i24, es25, k26, lo27, hd28, fx29, fx29rn⟩ := f15.1 (by omega)
          have hd830 : σ10.2.1 38 a = (es25.foldl uC (ey.foldl uC c00)).rn := (rfl).symm.trans (fx29).1.2.1.1.2.2.1
          refine tn_aload_n dX5_take_72 rfl 1 rfl ?_
          refine tn_iconst dX5_take_73 ?_
          have q4531 : (es25.foldl uC (ey.foldl uC c00)).m = σ.2.1 45 a := (fx29.e45).symm.trans (rc_F F18 (Or.inl (by decide)) (by decide) (rfl))
          refine tn_callV (M := m_X5_take) (pc := 74) (ix := 79) (ci := 5) (M' := m_X5_block) (As := [.int (iI 1)]) (rest := []) dX5_take_74 ok_X5_block im_X5_block se_X5_block ml5_79 np_X5_block rfl rfl h_a rfl (Nat.le_of_ble_eq_true rfl) (Nat.le_of_ble_eq_true rfl) rfl (k_X5_block_f (d) (T := T) (σ := σ10) (a := a) (dp := 1) (kp := 4) (bx := 0) h_a (by decide) w17 (by omega) fx29 (by omega) (by rw [q4531]; omega) (by omega) rp23) (fun r32 T34 σ33 gt35 hp => ?_)
          obtain ⟨v39, rfl, w40, F41, f36, f37, f38⟩ := hp
          replace h_a : OB T34 a 5 := gt35.ob h_a
          have rp43 : RP σ33 a (- 10 * v39 + 6) := RP.up f38 (by omega)
          show Tn _ _ 77 T34 σ33 [(4, .int (iI (σ.2.1 87 x2))), (0, .ref a), (3, .int (iI i3))] [.int (iI v39)] _
          refine tn_if_ne (tgt := 82) dX5_take_77 (by decide) ⟨by omega, by omega⟩ (fun h44 => ?_) (fun h44 => ?_)
          · refine tn_aload_n dX5_take_82 rfl 1 rfl ?_
            refine tn_iload dX5_take_83 0 rfl ?_
            obtain ⟨i45, es46, m47, lo48, rr49, fx50, fx50m⟩ := f37.1 (by omega)
            have fx50s : σ33.2.1 45 a ≤ (i45 : Int) := by rw [fx50.e45]; exact fx50m
            have rd510 : GR Sx [28] i24 0 (0) u0 [28] i24 (0) (0) u0 (0) ([]) := GR.nl
            have rd51a : GR Sx [28] i24 0 (0) u0 [] i45 (0) (0) u0 (0 + m47) ([] ++ es46) := GR.gg (l := [28]) (ms := []) [] rd510 rr49
            have rd51 : GR Sx [28] i24 0 (0) u0 [] i45 (0) (0) u0 (0 + m47) (es46) := rd51a
            refine tn_callV (M := m_X5_take) (pc := 85) (ix := 83) (ci := 5) (M' := m_X5_closeRoutine) (As := [.int (iI (σ.2.1 87 x2))]) (rest := []) dX5_take_85 ok_X5_closeRoutine im_X5_closeRoutine se_X5_closeRoutine ml5_83 np_X5_closeRoutine rfl rfl h_a rfl (Nat.le_of_ble_eq_true rfl) (Nat.le_of_ble_eq_true rfl) rfl (k_X5_closeRoutine_f (d + 74) (T := T34) (σ := σ33) (a := a) (w := σ.2.1 87 x2) (kp := - 10 * v39 + 6) h_a (by omega) w40 fx50 (by omega) rp43) (fun r52 T54 σ53 gt55 hp => ?_)
            obtain ⟨rfl, w59, F60, f56, f57⟩ := hp
            replace h_a : OB T54 a 5 := gt55.ob h_a
            have rp62 : RP σ53 a (- 10 * v39 + 7) := RP.up f57 (by omega)
            have fx63 : RDX σ53 a Sx nx i45 ((ey ++ es25 ++ es46 ++ [(0, (tkS Sx jy).1, 0 + m47 + 1, 0)]).foldl uC c00) (0 + m47 + 1) := RDX.cq f56 (by rw [g8pl]; simp only [List.foldl_append, List.foldl_cons, List.foldl_nil])
            show Tn _ _ 88 T54 σ53 [(4, .int (iI (σ.2.1 87 x2))), (0, .ref a), (3, .int (iI i3))] [] _
            refine tn_iinc (q0 := 2) (L' := [(3, .int (iI (i3 + 1))), (4, .int (iI (σ.2.1 87 x2))), (0, .ref a)]) dX5_take_88 rfl (by decide) rfl ?_
            refine tn_goto (tgt := 36) dX5_take_91 (by decide) ?_
            have hx648 : ((ey ++ es25 ++ es46 ++ [(0, (tkS Sx jy).1, 0 + m47 + 1, 0)]).foldl uC c00).rn = σ10.2.1 38 a := (fx63.1.2.1.1.2.2.1).symm.trans (rc_F F60 (Or.inl (by decide)) (by decide) (rc_F F41 (Or.inl (by decide)) (by decide) (rfl)))
            have hx645 : ((ey ++ es25 ++ es46 ++ [(0, (tkS Sx jy).1, 0 + m47 + 1, 0)]).foldl uC c00).m = σ33.2.1 45 a := (fx63.e45).symm.trans (rc_F F60 (Or.inl (by decide)) (by decide) (rfl))
            have hx64h : σ10.2.1 38 a = (ey.foldl uC c00).rn + 1 := (hd830).trans fx29rn
            have hx64 : TLI σ53 a Sx nx (5 * (i3 + 1)) := ⟨i45, ey ++ es25 ++ es46 ++ [(0, (tkS Sx jy).1, 0 + m47 + 1, 0)], 0 + m47 + 1, by omega, TR9.on hSb try9 hk9 hd28 rr49, fx63.1, by rw [hx648]; omega, by rw [hx645]; omega⟩
            exact tn_sub [2, 0] rfl (ih _ (by omega) T54 (i3 + 1) σ53 (GT.trans (GT.trans hG gt35) gt55) w59 ((((FrC.rfl.trans (FrC.sub hF (by decide))).trans (FrC.sub (FrC.old F18 hG) (by decide))).trans (FrC.sub (FrC.old F41 hG) (by decide))).trans (FrC.sub (FrC.old F60 (GT.trans hG gt35)) (by decide))) h_a (by omega) (RP.rt rp62 w59 h_a) hx64 rfl)
          · obtain ⟨pl65, g66, fx67⟩ := f37.2 (by omega)
            have rf680 : GR Sx [28] i24 0 (0) u0 [28] i24 (0) (0) u0 (0) ([]) := GR.nl
            have rf68 : GRF Sx [28] i24 0 (0) u0 (pl65) := GR.fl (l := [28]) [] rf680 g66
            exact tn_sub [1, 2] rfl (hx_80 T34 (i3) σ33 (GT.trans hG gt35) w40 (((FrC.rfl.trans (FrC.sub hF (by decide))).trans (FrC.sub (FrC.old F18 hG) (by decide))).trans (FrC.sub (FrC.old F41 hG) (by decide))) h_a (by omega) True.intro True.intro ⟨_, TR9.fb hSb try9 hk9 hd28 rf68, fx67⟩)
set_option maxHeartbeats 4000000 in
set_option maxRecDepth 20000 in
theorem k_X5_take_f (d : Nat) {T : CT} {σ : MS} {a : Nat} {t : Nat} {n : Int} {fT Sx : Int → Int} (ha : OB T a 5) (h_t : (T t).1 = 2) (l_t : (T t).2 ≤ 1000000) (h_n : -2147483648 ≤ n ∧ n ≤ 2147483647) (hw : WT T σ) (ht : (T t).2 = 1200) (hn : 0 ≤ n ∧ n ≤ 1200) (hfT : RWE σ t fT n) (hB : BYT fT) (hSx : Sx = svC fT n) : Tn (d + 79) m_X5_take 0 T σ [(0, .ref a), (1, .ref t), (2, .int (iI n))] [] (fun ro T2 σ2 => ∃ v : Int, ro = some (.int (iI v)) ∧ WT T2 σ2 ∧ FrC T [5, 6, 7, 8, 9, 10, 35, 38, 42, 43, 44, 45, 46, 47, 50, 51, 84, 85, 86, 87, 512, 516, 517, 518, 519, 520, 521, 522, 523] σ σ2 ∧ (v = 0 ∨ v = 1) ∧ (TO9 σ2 a Sx v)) := by
  have hrow := hfT
  refine tn_aload_n dX5_take_0 rfl 0 rfl ?_
  refine tn_iconst dX5_take_1 ?_
  refine tn_putV (ci := 5) (i := 10) (n := 43) (r := false) (v := 0) tyX5 tyX5_ok nmX5 dX5_take_2 rfl lay_5 (by decide) fl5_51 rfl (tyX5_ok 10 (by decide)) rfl rfl rfl ha rfl rfl ?_
  refine tn_aload_n dX5_take_5 rfl 0 rfl ?_
  refine tn_iconst dX5_take_6 ?_
  refine tn_putV (ci := 5) (i := 11) (n := 44) (r := false) (v := -1) tyX5 tyX5_ok nmX5 dX5_take_7 rfl lay_5 (by decide) fl5_55 rfl (tyX5_ok 11 (by decide)) rfl rfl rfl ha rfl rfl ?_
  refine tn_aload_n dX5_take_10 rfl 0 rfl ?_
  refine tn_iconst dX5_take_11 ?_
  refine tn_putV (ci := 5) (i := 5) (n := 38) (r := false) (v := 0) tyX5 tyX5_ok nmX5 dX5_take_12 rfl lay_5 (by decide) fl5_58 rfl (tyX5_ok 5 (by decide)) rfl rfl rfl ha rfl rfl ?_
  refine tn_aload_n dX5_take_15 rfl 0 rfl ?_
  refine tn_iconst dX5_take_16 ?_
  refine tn_putV (ci := 5) (i := 9) (n := 42) (r := false) (v := 0) tyX5 tyX5_ok nmX5 dX5_take_17 rfl lay_5 (by decide) fl5_61 rfl (tyX5_ok 9 (by decide)) rfl rfl rfl ha rfl rfl ?_
  refine tn_aload_n dX5_take_20 rfl 0 rfl ?_
  refine tn_iconst dX5_take_21 ?_
  refine tn_putV (ci := 5) (i := 12) (n := 45) (r := false) (v := 0) tyX5 tyX5_ok nmX5 dX5_take_22 rfl lay_5 (by decide) fl5_64 rfl (tyX5_ok 12 (by decide)) rfl rfl rfl ha rfl rfl ?_
  refine tn_aload_n dX5_take_25 rfl 0 rfl ?_
  obtain ⟨x1, hx2, hk3⟩ : ∃ x : Nat, σ.2.1 33 a = (x : Int) ∧ (T x).1 = 39 := wf_33 hw ha
  have hk3o : OB T x1 9 := ⟨by omega, by rw [hk3]; rfl, by omega⟩
  refine tn_getR (ci := 5) (i := 0) (n := 33) (x := x1) dX5_take_26 rfl lay_5 (by decide) fl5_12 ha rfl rfl (rc_o (by decide) (rc_o (by decide) (rc_o (by decide) (rc_o (by decide) (rc_o (by decide) (hx2)))))) ?_
  refine tn_aload_n dX5_take_29 rfl 1 rfl ?_
  refine tn_iload_n dX5_take_30 rfl 2 rfl ?_
  refine tn_callV (M := m_X5_take) (pc := 31) (ix := 67) (ci := 9) (M' := m_X9_scan) (As := [.ref t, .int (iI n)]) (rest := []) dX5_take_31 ok_X9_scan im_X9_scan se_X9_scan ml5_67 np_X9_scan rfl rfl hk3o rfl (Nat.le_of_ble_eq_true rfl) (Nat.le_of_ble_eq_true rfl) rfl (k_X9_scan_f (d + 75) (T := T) (σ := (sA 45 a (0) (sA 42 a (0) (sA 38 a (0) (sA 44 a (-1) (sA 43 a (0) σ)))))) (a := x1) (t := t) (n := n) hk3o h_t (by omega) (by omega) (((((hw.put (by decide) (by decide) (fo_43 (by omega))).put (by decide) (by decide) (fo_44 (by omega))).put (by decide) (by decide) (fo_38 (by omega))).put (by decide) (by decide) (fo_42 (by omega))).put (by decide) (by decide) (fo_45 (by omega))) ht hn (RWE.cg (RWE.cg (RWE.cg (RWE.cg (RWE.cg hrow (sA_k (by omega))) (sA_k (by omega))) (sA_k (by omega))) (sA_k (by omega))) (sA_k (by omega))) hB hSx) (fun r5 T7 σ6 gt8 hp => ?_)
  obtain ⟨rfl, rfl, w12, F13, f9, f10⟩ := hp
  clear gt8
  obtain ⟨m14, m14t⟩ := f10
  show Tn _ _ 34 T σ6 [(0, .ref a), (1, .ref t), (2, .int (iI n))] [] _
  refine tn_iconst dX5_take_34 ?_
  refine tn_istore_n (L' := [(3, .int (iI 0)), (0, .ref a), (1, .ref t), (2, .int (iI n))]) dX5_take_35 rfl (by decide) rfl ?_
  have q16 : σ6.2.1 43 a = 0 := rc_F F13 (Or.inl (by decide)) (by decide) (rc_o (by decide) (rc_o (by decide) (rc_o (by decide) (rc_o (by decide) (ra_eq)))))
  have q17 : σ6.2.1 44 a = -1 := rc_F F13 (Or.inl (by decide)) (by decide) (rc_o (by decide) (rc_o (by decide) (rc_o (by decide) (ra_eq))))
  have q18 : σ6.2.1 38 a = 0 := rc_F F13 (Or.inl (by decide)) (by decide) (rc_o (by decide) (rc_o (by decide) (ra_eq)))
  have q19 : σ6.2.1 42 a = 0 := rc_F F13 (Or.inl (by decide)) (by decide) (rc_o (by decide) (ra_eq))
  have q20 : σ6.2.1 45 a = 0 := rc_F F13 (Or.inl (by decide)) (by decide) (ra_eq)
  have w15k : TKR σ6 a Sx m14 0 := ⟨by rw [hSx]; exact svC_sb hB, fun t ht => by
    have e : t = x1 := by have q9 := (rc_F F13 (Or.inl (by decide)) (by decide) (rc_o (by decide) (rc_o (by decide) (rc_o (by decide) (rc_o (by decide) (rc_o (by decide) (hx2))))))); omega
    rw [e]; exact m14t⟩
  have w15c : CS0 σ6 a c00 := ⟨⟨q16, q17, q18, q19, q20⟩, fun _ _ i h1 h2 => absurd (show i < 0 from h2) (by omega), fun _ _ i h1 h2 => absurd (show i < 0 from h2) (by omega), fun _ _ i h1 h2 => absurd (show i < 0 from h2) (by omega), fun _ _ i h1 h2 => absurd (show i < 0 from h2) (by omega), fun _ _ i h1 h2 => absurd (show i < 0 from h2) (by omega)⟩
  have w15 : TLI σ6 a Sx m14 (5 * (0)) := ⟨0, [], 0, by omega, TR9.nl, ⟨w15k, w15c, by unfold PO; show (6 * (0 : Int) ≤ ((0 : Nat) : Int)) ∧ (5 * (0 : Int) ≤ ((0 : Nat) : Int) + 5) ∧ ((0 : Int) ≤ 0) ∧ ((0 : Int) ≤ ((0 : Nat) : Int) + 1); omega⟩, by show 5 * (0 : Int) ≤ ((0 : Nat) : Int); omega, by show (0 : Int) ≤ ((0 : Nat) : Int); omega⟩
  refine tn_sub [1, 0] rfl (l_X5_take_f_36 (d) (σ0 := σ6) (T0 := T) (a := a) (Sx := Sx) (nx := m14) w12 (fun T23 i321 σ22 gt24 w25 F26 q27 r28 f29 f30 f31 => ?_) (fun T34 i332 σ33 gt35 w36 F37 q38 r39 f40 f41 f42 => ?_) _ T (0) σ6 GT.rfl w12 FrC.rfl ha (by omega) (RT.of (rc_F F13 (Or.inl (by decide)) (by decide) (rc_o (by decide) (rc_o (by decide) (rc_o (by decide) (rc_o (by decide) (rc_o (by decide) (hx2))))))) f9) w15 rfl)
  · show Tn _ _ 80 T23 σ22 [(0, .ref a), (3, .int (iI i321))] [] _
    refine tn_iconst dX5_take_80 ?_
    exact tn_zret (v := 0) rfl (by decide) dX5_take_81 ⟨_, rfl, w25, (((((((FrC.rfl.put (by decide) (by decide)).put (by decide) (by decide)).put (by decide) (by decide)).put (by decide) (by decide)).put (by decide) (by decide)).trans (FrC.sub F13 (by decide))).trans (FrC.sub F26 (by decide))), by omega, TLF.to f31 rfl⟩
  · obtain ⟨i43, es44, N45, tr46, fx47, hk48⟩ := f42
    have hSb := fx47.sb
    show Tn _ _ 94 T34 σ33 [(0, .ref a), (3, .int (iI i332))] [] _
    refine tn_aload_n dX5_take_94 rfl 0 rfl ?_
    refine tn_callV (M := m_X5_take) (pc := 95) (ix := 87) (ci := 5) (M' := m_X5_settleCalls) (As := []) (rest := []) dX5_take_95 ok_X5_settleCalls im_X5_settleCalls se_X5_settleCalls ml5_87 np_X5_settleCalls rfl rfl q38 rfl (Nat.le_of_ble_eq_true rfl) (Nat.le_of_ble_eq_true rfl) rfl (k_X5_settleCalls_f (d + 75) (T := T34) (σ := σ33) (a := a) q38 w36 fx47) (fun r49 T51 σ50 gt52 hp => ?_)
    obtain ⟨v55, rfl, rfl, w56, F57, f53, f54⟩ := hp
    clear gt52
    show Tn _ _ 98 T34 σ50 [(0, .ref a), (3, .int (iI i332))] [.int (iI v55)] _
    exact tn_zret (v := v55) rfl (by omega) dX5_take_98 ⟨_, rfl, w56, ((((((((FrC.rfl.put (by decide) (by decide)).put (by decide) (by decide)).put (by decide) (by decide)).put (by decide) (by decide)).put (by decide) (by decide)).trans (FrC.sub F13 (by decide))).trans (FrC.sub F37 (by decide))).trans (FrC.sub (FrC.old F57 gt35) (by decide))), by omega, TO9.ok hSb tr46 hk48 f54⟩
end
section
def nArgs (σ : MS) (x : Int) : Int := if σ.2.1 3 x = 10 then σ.2.1 11 (σ.2.1 5 x) else if σ.2.1 3 x = 12 then (if 10 ≤ σ.2.1 6 x then 0 else if 2 < σ.2.1 6 x then 2 else 1) else if 1 ≤ σ.2.1 3 x ∧ σ.2.1 3 x ≤ 5 then 2 else if σ.2.1 3 x = 0 ∨ σ.2.1 3 x = 6 ∨ σ.2.1 3 x = 7 ∨ σ.2.1 3 x = 9 then 1 else 0
def PAR (σ : MS) : Prop := ∀ r, 0 ≤ r → r < 6 → 0 ≤ σ.2.1 11 r ∧ σ.2.1 11 r ≤ 4
def fArg (x i k v : Int) (σ : MS) : MS := sA 8 (4 * x + i) v (sA 7 (4 * x + i) k σ)
def fItem (x k d o : Int) (σ : MS) : MS := sA 8 (4 * x + 3) 0 (sA 7 (4 * x + 3) 0 (sA 8 (4 * x + 2) 0 (sA 7 (4 * x + 2) 0 (sA 8 (4 * x + 1) 0 (sA 7 (4 * x + 1) 0 (sA 8 (4 * x + 0) 0 (sA 7 (4 * x + 0) 0 (sA 6 x 0 (sA 5 x o (sA 4 x d (sA 3 x k σ)))))))))))
def fCopy (f t : Int) (σ : MS) : MS := sA 8 (4 * t + 3) (σ.2.1 8 (4 * f + 3)) (sA 7 (4 * t + 3) (σ.2.1 7 (4 * f + 3)) (sA 8 (4 * t + 2) (σ.2.1 8 (4 * f + 2)) (sA 7 (4 * t + 2) (σ.2.1 7 (4 * f + 2)) (sA 8 (4 * t + 1) (σ.2.1 8 (4 * f + 1)) (sA 7 (4 * t + 1) (σ.2.1 7 (4 * f + 1)) (sA 8 (4 * t + 0) (σ.2.1 8 (4 * f + 0)) (sA 7 (4 * t + 0) (σ.2.1 7 (4 * f + 0)) (sA 6 t (σ.2.1 6 f) (sA 5 t (σ.2.1 5 f) (sA 4 t (σ.2.1 4 f) (sA 3 t (σ.2.1 3 f) σ)))))))))))
theorem fArg_fr {x i k v : Int} {σ : MS} : Fr [] [7, 8] [] σ (fArg x i k v σ) := (Fr.rfl.A (by decide)).A (by decide)
theorem fItem_fr {x k d o : Int} {σ : MS} : Fr [] [3, 4, 5, 6, 7, 8] [] σ (fItem x k d o σ) := (((((((((((Fr.rfl.A (by decide)).A (by decide)).A (by decide)).A (by decide)).A (by decide)).A (by decide)).A (by decide)).A (by decide)).A (by decide)).A (by decide)).A (by decide)).A (by decide)
theorem fCopy_fr {f t : Int} {σ : MS} : Fr [] [3, 4, 5, 6, 7, 8] [] σ (fCopy f t σ) := (((((((((((Fr.rfl.A (by decide)).A (by decide)).A (by decide)).A (by decide)).A (by decide)).A (by decide)).A (by decide)).A (by decide)).A (by decide)).A (by decide)).A (by decide)).A (by decide)

theorem dX12_in_0 : decode cX12_in 0 = .ok (.iload_n 0, 1) := by decide +kernel
theorem dX12_in_1 : decode cX12_in 1 = .ok (.iload_n 1, 1) := by decide +kernel
theorem dX12_in_2 : decode cX12_in 2 = .ok (.if_icmp .lt 12, 3) := by decide +kernel
theorem dX12_in_14 : decode cX12_in 14 = .ok (.iconst 0, 1) := by decide +kernel
theorem dX12_in_15 : decode cX12_in 15 = .ok (.ireturn, 1) := by decide +kernel
theorem dX12_in_5 : decode cX12_in 5 = .ok (.iload_n 0, 1) := by decide +kernel
theorem dX12_in_6 : decode cX12_in 6 = .ok (.iload_n 2, 1) := by decide +kernel
theorem dX12_in_7 : decode cX12_in 7 = .ok (.if_icmp .gt 7, 3) := by decide +kernel
theorem dX12_in_10 : decode cX12_in 10 = .ok (.iconst 1, 1) := by decide +kernel
theorem dX12_in_11 : decode cX12_in 11 = .ok (.goto 4, 3) := by decide +kernel
set_option maxRecDepth 20000 in
theorem c_X12_in (d : Nat) {b : Nat} {σ : MS} {x : Int} {lo : Int} {hi : Int} (h_x : -2147483648 ≤ x ∧ x ≤ 2147483647) (h_lo : -2147483648 ≤ lo ∧ lo ≤ 2147483647) (h_hi : -2147483648 ≤ hi ∧ hi ≤ 2147483647) : Tm (d + 1) m_X12_in 0 b σ [(0, .int (iI x)), (1, .int (iI lo)), (2, .int (iI hi))] [] (fun ro σ2 => ∃ v : Int, ro = some (.int (iI v)) ∧ σ = σ2 ∧ ((v = 0 ∨ v = 1)) ∧ ((v = 1 ↔ lo ≤ x ∧ x ≤ hi))) := by
  refine tm_iload_n dX12_in_0 rfl 0 rfl ?_
  refine tm_iload_n dX12_in_1 rfl 1 rfl ?_
  refine tm_icmp_lt (tgt := 14) dX12_in_2 (by decide) ⟨by omega, by omega⟩ ⟨by omega, by omega⟩ (fun h1 => ?_) (fun h1 => ?_)
  · refine tm_iconst dX12_in_14 ?_
    exact tm_zret (v := 0) rfl (by decide) dX12_in_15 (⟨_, rfl, rfl, by omega, by omega⟩)
  · refine tm_iload_n dX12_in_5 rfl 0 rfl ?_
    refine tm_iload_n dX12_in_6 rfl 2 rfl ?_
    refine tm_icmp_gt (tgt := 14) dX12_in_7 (by decide) ⟨by omega, by omega⟩ ⟨by omega, by omega⟩ (fun h2 => ?_) (fun h2 => ?_)
    · refine tm_iconst dX12_in_14 ?_
      exact tm_zret (v := 0) rfl (by decide) dX12_in_15 (⟨_, rfl, rfl, by omega, by omega⟩)
    · refine tm_iconst dX12_in_10 ?_
      refine tm_goto (tgt := 15) dX12_in_11 (by decide) ?_
      exact tm_zret (v := 1) rfl (by decide) dX12_in_15 (⟨_, rfl, rfl, by omega, by omega⟩)
theorem dX12_isAct_0 : decode cX12_isAct 0 = .ok (.iload_n 0, 1) := by decide +kernel
theorem dX12_isAct_1 : decode cX12_isAct 1 = .ok (.bipush 10, 2) := by decide +kernel
theorem dX12_isAct_3 : decode cX12_isAct 3 = .ok (.if_icmp .gt 7, 3) := by decide +kernel
theorem dX12_isAct_10 : decode cX12_isAct 10 = .ok (.iconst 0, 1) := by decide +kernel
theorem dX12_isAct_11 : decode cX12_isAct 11 = .ok (.ireturn, 1) := by decide +kernel
theorem dX12_isAct_6 : decode cX12_isAct 6 = .ok (.iconst 1, 1) := by decide +kernel
theorem dX12_isAct_7 : decode cX12_isAct 7 = .ok (.goto 4, 3) := by decide +kernel
set_option maxRecDepth 20000 in
theorem c_X12_isAct (d : Nat) {b : Nat} {σ : MS} {x : Int} (h_x : -2147483648 ≤ x ∧ x ≤ 2147483647) : Tm (d + 1) m_X12_isAct 0 b σ [(0, .int (iI x))] [] (fun ro σ2 => ∃ v : Int, ro = some (.int (iI v)) ∧ σ = σ2 ∧ ((v = 0 ∨ v = 1)) ∧ ((v = 1 ↔ x ≤ 10))) := by
  refine tm_iload_n dX12_isAct_0 rfl 0 rfl ?_
  refine tm_bipush dX12_isAct_1 (by decide) ?_
  refine tm_icmp_gt (tgt := 10) dX12_isAct_3 (by decide) ⟨by omega, by omega⟩ ⟨by decide, by decide⟩ (fun h1 => ?_) (fun h1 => ?_)
  · refine tm_iconst dX12_isAct_10 ?_
    exact tm_zret (v := 0) rfl (by decide) dX12_isAct_11 (⟨_, rfl, rfl, by omega, by omega⟩)
  · refine tm_iconst dX12_isAct_6 ?_
    refine tm_goto (tgt := 11) dX12_isAct_7 (by decide) ?_
    exact tm_zret (v := 1) rfl (by decide) dX12_isAct_11 (⟨_, rfl, rfl, by omega, by omega⟩)
theorem ml12_188 : Cond.methodLink RX12 188 yX12_in ∈ pWW := pw8 (List.mem_of_getElem? (i := 40) rfl) rfl
theorem dX12_isFive_0 : decode cX12_isFive 0 = .ok (.iload_n 0, 1) := by decide +kernel
theorem dX12_isFive_1 : decode cX12_isFive 1 = .ok (.iconst 1, 1) := by decide +kernel
theorem dX12_isFive_2 : decode cX12_isFive 2 = .ok (.iconst 5, 1) := by decide +kernel
theorem dX12_isFive_3 : decode cX12_isFive 3 = .ok (.invokestatic 188, 3) := by decide +kernel
theorem dX12_isFive_6 : decode cX12_isFive 6 = .ok (.ireturn, 1) := by decide +kernel
set_option maxRecDepth 20000 in
theorem c_X12_isFive (d : Nat) {b : Nat} {σ : MS} {x : Int} (h_x : -2147483648 ≤ x ∧ x ≤ 2147483647) : Tm (d + 2) m_X12_isFive 0 b σ [(0, .int (iI x))] [] (fun ro σ2 => ∃ v : Int, ro = some (.int (iI v)) ∧ σ = σ2 ∧ ((v = 0 ∨ v = 1)) ∧ ((v = 1 ↔ 1 ≤ x ∧ x ≤ 5))) := by
  refine tm_iload_n dX12_isFive_0 rfl 0 rfl ?_
  refine tm_iconst dX12_isFive_1 ?_
  refine tm_iconst dX12_isFive_2 ?_
  refine tm_callS (M := m_X12_isFive) (pc := 3) (ix := 188) (M' := m_X12_in) (As := [.int (iI x), .int (iI 1), .int (iI 5)]) (rest := []) dX12_isFive_3 ok_X12_in stt_X12_in ml12_188 np_X12_in rfl (Nat.le_of_ble_eq_true rfl) (Nat.le_of_ble_eq_true rfl) rfl (c_X12_in (d) (σ := σ) (x := x) (lo := 1) (hi := 5) (by omega) (by omega) (by omega)) (fun r1 σ2 hp => ?_)
  obtain ⟨v3, rfl, rfl, f4, f5⟩ := hp
  show Tm _ _ 6 b σ [(0, .int (iI x))] [.int (iI v3)] _
  exact tm_zret (v := v3) rfl (by omega) dX12_isFive_6 (⟨_, rfl, rfl, by omega, by omega⟩)
theorem dX12_writes_0 : decode cX12_writes 0 = .ok (.iload_n 0, 1) := by decide +kernel
theorem dX12_writes_1 : decode cX12_writes 1 = .ok (.iconst 5, 1) := by decide +kernel
theorem dX12_writes_2 : decode cX12_writes 2 = .ok (.if_icmp .le 9, 3) := by decide +kernel
theorem dX12_writes_11 : decode cX12_writes 11 = .ok (.iconst 1, 1) := by decide +kernel
theorem dX12_writes_12 : decode cX12_writes 12 = .ok (.goto 4, 3) := by decide +kernel
theorem dX12_writes_16 : decode cX12_writes 16 = .ok (.ireturn, 1) := by decide +kernel
theorem dX12_writes_5 : decode cX12_writes 5 = .ok (.iload_n 0, 1) := by decide +kernel
theorem dX12_writes_6 : decode cX12_writes 6 = .ok (.bipush 10, 2) := by decide +kernel
theorem dX12_writes_8 : decode cX12_writes 8 = .ok (.if_icmp .ne 7, 3) := by decide +kernel
theorem dX12_writes_15 : decode cX12_writes 15 = .ok (.iconst 0, 1) := by decide +kernel
set_option maxRecDepth 20000 in
theorem c_X12_writes (d : Nat) {b : Nat} {σ : MS} {x : Int} (h_x : -2147483648 ≤ x ∧ x ≤ 2147483647) : Tm (d + 1) m_X12_writes 0 b σ [(0, .int (iI x))] [] (fun ro σ2 => ∃ v : Int, ro = some (.int (iI v)) ∧ σ = σ2 ∧ ((v = 0 ∨ v = 1)) ∧ ((v = 1 ↔ x ≤ 5 ∨ x = 10))) := by
  refine tm_iload_n dX12_writes_0 rfl 0 rfl ?_
  refine tm_iconst dX12_writes_1 ?_
  refine tm_icmp_le (tgt := 11) dX12_writes_2 (by decide) ⟨by omega, by omega⟩ ⟨by decide, by decide⟩ (fun h1 => ?_) (fun h1 => ?_)
  · refine tm_iconst dX12_writes_11 ?_
    refine tm_goto (tgt := 16) dX12_writes_12 (by decide) ?_
    exact tm_zret (v := 1) rfl (by decide) dX12_writes_16 (⟨_, rfl, rfl, by omega, by omega⟩)
  · refine tm_iload_n dX12_writes_5 rfl 0 rfl ?_
    refine tm_bipush dX12_writes_6 (by decide) ?_
    refine tm_icmp_ne (tgt := 15) dX12_writes_8 (by decide) ⟨by omega, by omega⟩ ⟨by decide, by decide⟩ (fun h2 => ?_) (fun h2 => ?_)
    · refine tm_iconst dX12_writes_15 ?_
      exact tm_zret (v := 0) rfl (by decide) dX12_writes_16 (⟨_, rfl, rfl, by omega, by omega⟩)
    · refine tm_iconst dX12_writes_11 ?_
      refine tm_goto (tgt := 16) dX12_writes_12 (by decide) ?_
      exact tm_zret (v := 1) rfl (by decide) dX12_writes_16 (⟨_, rfl, rfl, by omega, by omega⟩)
theorem dX12_isLetter_0 : decode cX12_isLetter 0 = .ok (.iload_n 0, 1) := by decide +kernel
theorem dX12_isLetter_1 : decode cX12_isLetter 1 = .ok (.bipush 97, 2) := by decide +kernel
theorem dX12_isLetter_3 : decode cX12_isLetter 3 = .ok (.bipush 122, 2) := by decide +kernel
theorem dX12_isLetter_5 : decode cX12_isLetter 5 = .ok (.invokestatic 188, 3) := by decide +kernel
theorem dX12_isLetter_8 : decode cX12_isLetter 8 = .ok (.ireturn, 1) := by decide +kernel
set_option maxRecDepth 20000 in
theorem c_X12_isLetter (d : Nat) {b : Nat} {σ : MS} {x : Int} (h_x : -2147483648 ≤ x ∧ x ≤ 2147483647) : Tm (d + 2) m_X12_isLetter 0 b σ [(0, .int (iI x))] [] (fun ro σ2 => ∃ v : Int, ro = some (.int (iI v)) ∧ σ = σ2 ∧ ((v = 0 ∨ v = 1)) ∧ ((v = 1 ↔ 97 ≤ x ∧ x ≤ 122))) := by
  refine tm_iload_n dX12_isLetter_0 rfl 0 rfl ?_
  refine tm_bipush dX12_isLetter_1 (by decide) ?_
  refine tm_bipush dX12_isLetter_3 (by decide) ?_
  refine tm_callS (M := m_X12_isLetter) (pc := 5) (ix := 188) (M' := m_X12_in) (As := [.int (iI x), .int (iI 97), .int (iI 122)]) (rest := []) dX12_isLetter_5 ok_X12_in stt_X12_in ml12_188 np_X12_in rfl (Nat.le_of_ble_eq_true rfl) (Nat.le_of_ble_eq_true rfl) rfl (c_X12_in (d) (σ := σ) (x := x) (lo := 97) (hi := 122) (by omega) (by omega) (by omega)) (fun r1 σ2 hp => ?_)
  obtain ⟨v3, rfl, rfl, f4, f5⟩ := hp
  show Tm _ _ 8 b σ [(0, .int (iI x))] [.int (iI v3)] _
  exact tm_zret (v := v3) rfl (by omega) dX12_isLetter_8 (⟨_, rfl, rfl, by omega, by omega⟩)
theorem dX12_isDigit_0 : decode cX12_isDigit 0 = .ok (.iload_n 0, 1) := by decide +kernel
theorem dX12_isDigit_1 : decode cX12_isDigit 1 = .ok (.bipush 48, 2) := by decide +kernel
theorem dX12_isDigit_3 : decode cX12_isDigit 3 = .ok (.bipush 57, 2) := by decide +kernel
theorem dX12_isDigit_5 : decode cX12_isDigit 5 = .ok (.invokestatic 188, 3) := by decide +kernel
theorem dX12_isDigit_8 : decode cX12_isDigit 8 = .ok (.ireturn, 1) := by decide +kernel
set_option maxRecDepth 20000 in
theorem c_X12_isDigit (d : Nat) {b : Nat} {σ : MS} {x : Int} (h_x : -2147483648 ≤ x ∧ x ≤ 2147483647) : Tm (d + 2) m_X12_isDigit 0 b σ [(0, .int (iI x))] [] (fun ro σ2 => ∃ v : Int, ro = some (.int (iI v)) ∧ σ = σ2 ∧ ((v = 0 ∨ v = 1)) ∧ ((v = 1 ↔ 48 ≤ x ∧ x ≤ 57))) := by
  refine tm_iload_n dX12_isDigit_0 rfl 0 rfl ?_
  refine tm_bipush dX12_isDigit_1 (by decide) ?_
  refine tm_bipush dX12_isDigit_3 (by decide) ?_
  refine tm_callS (M := m_X12_isDigit) (pc := 5) (ix := 188) (M' := m_X12_in) (As := [.int (iI x), .int (iI 48), .int (iI 57)]) (rest := []) dX12_isDigit_5 ok_X12_in stt_X12_in ml12_188 np_X12_in rfl (Nat.le_of_ble_eq_true rfl) (Nat.le_of_ble_eq_true rfl) rfl (c_X12_in (d) (σ := σ) (x := x) (lo := 48) (hi := 57) (by omega) (by omega) (by omega)) (fun r1 σ2 hp => ?_)
  obtain ⟨v3, rfl, rfl, f4, f5⟩ := hp
  show Tm _ _ 8 b σ [(0, .int (iI x))] [.int (iI v3)] _
  exact tm_zret (v := v3) rfl (by omega) dX12_isDigit_8 (⟨_, rfl, rfl, by omega, by omega⟩)
theorem dX12_at_0 : decode cX12_at 0 = .ok (.sipush 220, 3) := by decide +kernel
theorem dX12_at_3 : decode cX12_at 3 = .ok (.iload_n 1, 1) := by decide +kernel
theorem dX12_at_4 : decode cX12_at 4 = .ok (.imul, 1) := by decide +kernel
theorem dX12_at_5 : decode cX12_at 5 = .ok (.iload_n 2, 1) := by decide +kernel
theorem dX12_at_6 : decode cX12_at 6 = .ok (.iadd, 1) := by decide +kernel
theorem dX12_at_7 : decode cX12_at 7 = .ok (.ireturn, 1) := by decide +kernel
set_option maxRecDepth 20000 in
theorem c_X12_at (d : Nat) {b : Nat} {σ : MS} {x : Int} {k : Int} : Tm (d + 1) m_X12_at 0 b σ [(0, .ref b), (1, .int (iI x)), (2, .int (iI k))] [] (fun ro σ2 => ∃ v : Int, ro = some (.int (iI v)) ∧ σ = σ2 ∧ (v = 220 * x + k)) := by
  refine tm_sipush dX12_at_0 (by decide) ?_
  refine tm_iload_n dX12_at_3 rfl 1 rfl ?_
  refine tm_imul dX12_at_4 ?_
  refine tm_iload_n dX12_at_5 rfl 2 rfl ?_
  refine tm_iadd dX12_at_6 ?_
  exact tm_iret rfl dX12_at_7 (⟨_, rfl, rfl, by omega⟩)
theorem dX12_bank_0 : decode cX12_bank 0 = .ok (.iload_n 1, 1) := by decide +kernel
theorem dX12_bank_1 : decode cX12_bank 1 = .ok (.iconst 2, 1) := by decide +kernel
theorem dX12_bank_2 : decode cX12_bank 2 = .ok (.if_icmp .ne 8, 3) := by decide +kernel
theorem dX12_bank_10 : decode cX12_bank 10 = .ok (.iconst 0, 1) := by decide +kernel
theorem dX12_bank_11 : decode cX12_bank 11 = .ok (.ireturn, 1) := by decide +kernel
theorem dX12_bank_5 : decode cX12_bank 5 = .ok (.bipush 6, 2) := by decide +kernel
theorem dX12_bank_7 : decode cX12_bank 7 = .ok (.goto 4, 3) := by decide +kernel
set_option maxRecDepth 20000 in
theorem c_X12_bank (d : Nat) {b : Nat} {σ : MS} {m : Int} (h_m : -2147483648 ≤ m ∧ m ≤ 2147483647) : Tm (d + 1) m_X12_bank 0 b σ [(0, .ref b), (1, .int (iI m))] [] (fun ro σ2 => ∃ v : Int, ro = some (.int (iI v)) ∧ σ = σ2 ∧ ((v = 0 ∨ v = 6)) ∧ ((m = 2 → v = 6)) ∧ ((m ≠ 2 → v = 0))) := by
  refine tm_iload_n dX12_bank_0 rfl 1 rfl ?_
  refine tm_iconst dX12_bank_1 ?_
  refine tm_icmp_ne (tgt := 10) dX12_bank_2 (by decide) ⟨by omega, by omega⟩ ⟨by decide, by decide⟩ (fun h1 => ?_) (fun h1 => ?_)
  · refine tm_iconst dX12_bank_10 ?_
    exact tm_iret rfl dX12_bank_11 (⟨_, rfl, rfl, by omega, by omega, by omega⟩)
  · refine tm_bipush dX12_bank_5 (by decide) ?_
    refine tm_goto (tgt := 11) dX12_bank_7 (by decide) ?_
    exact tm_iret rfl dX12_bank_11 (⟨_, rfl, rfl, by omega, by omega, by omega⟩)
theorem fl12_26 : Cond.fieldLink RX12 26 (TX12 7).1 (TX12 7).2.1 (TX12 7).2.2.1 ∈ pWW := pw7 (List.mem_of_getElem? (i := 14) rfl) rfl
theorem fl12_29 : Cond.fieldLink RX12 29 (TX12 8).1 (TX12 8).2.1 (TX12 8).2.2.1 ∈ pWW := pw7 (List.mem_of_getElem? (i := 15) rfl) rfl
theorem dX12_setArg_0 : decode cX12_setArg 0 = .ok (.aload_n 0, 1) := by decide +kernel
theorem dX12_setArg_1 : decode cX12_setArg 1 = .ok (.getfield 26, 3) := by decide +kernel
theorem dX12_setArg_4 : decode cX12_setArg 4 = .ok (.iconst 4, 1) := by decide +kernel
theorem dX12_setArg_5 : decode cX12_setArg 5 = .ok (.iload_n 1, 1) := by decide +kernel
theorem dX12_setArg_6 : decode cX12_setArg 6 = .ok (.imul, 1) := by decide +kernel
theorem dX12_setArg_7 : decode cX12_setArg 7 = .ok (.iload_n 2, 1) := by decide +kernel
theorem dX12_setArg_8 : decode cX12_setArg 8 = .ok (.iadd, 1) := by decide +kernel
theorem dX12_setArg_9 : decode cX12_setArg 9 = .ok (.iload_n 3, 1) := by decide +kernel
theorem dX12_setArg_10 : decode cX12_setArg 10 = .ok (.iastore, 1) := by decide +kernel
theorem dX12_setArg_11 : decode cX12_setArg 11 = .ok (.aload_n 0, 1) := by decide +kernel
theorem dX12_setArg_12 : decode cX12_setArg 12 = .ok (.getfield 29, 3) := by decide +kernel
theorem dX12_setArg_15 : decode cX12_setArg 15 = .ok (.iconst 4, 1) := by decide +kernel
theorem dX12_setArg_16 : decode cX12_setArg 16 = .ok (.iload_n 1, 1) := by decide +kernel
theorem dX12_setArg_17 : decode cX12_setArg 17 = .ok (.imul, 1) := by decide +kernel
theorem dX12_setArg_18 : decode cX12_setArg 18 = .ok (.iload_n 2, 1) := by decide +kernel
theorem dX12_setArg_19 : decode cX12_setArg 19 = .ok (.iadd, 1) := by decide +kernel
theorem dX12_setArg_20 : decode cX12_setArg 20 = .ok (.iload 4, 2) := by decide +kernel
theorem dX12_setArg_22 : decode cX12_setArg 22 = .ok (.iastore, 1) := by decide +kernel
theorem dX12_setArg_23 : decode cX12_setArg 23 = .ok (.return_, 1) := by decide +kernel
set_option maxRecDepth 20000 in
theorem c_X12_setArg (d : Nat) {b : Nat} {σ : MS} {x : Int} {i : Int} {k : Int} {w : Int} (hx : 0 ≤ 4 * x + i ∧ 4 * x + i < 11440) : Tm (d + 1) m_X12_setArg 0 b σ [(0, .ref b), (1, .int (iI x)), (2, .int (iI i)), (3, .int (iI k)), (4, .int (iI w))] [] (fun ro σ2 => ro = none ∧ (σ2 = fArg x i k w σ)) := by
  refine tm_aload_n dX12_setArg_0 rfl 0 rfl ?_
  refine tm_get (k := 7) (v := .ref (b + 1 + 5)) lay_12 dX12_setArg_1 (by decide) fl12_26 rfl ?_
  refine tm_iconst dX12_setArg_4 ?_
  refine tm_iload_n dX12_setArg_5 rfl 1 rfl ?_
  refine tm_imul dX12_setArg_6 ?_
  refine tm_iload_n dX12_setArg_7 rfl 2 rfl ?_
  refine tm_iadd dX12_setArg_8 ?_
  refine tm_iload_n dX12_setArg_9 rfl 3 rfl ?_
  refine tm_iast (z := (4 * x) + i) (v := k) dX12_setArg_10 (show mT[5]? = some (7, 0, 11440) from rfl) (by omega) (by omega) (by decide) ?_
  refine tm_aload_n dX12_setArg_11 rfl 0 rfl ?_
  refine tm_get (k := 8) (v := .ref (b + 1 + 6)) lay_12 dX12_setArg_12 (by decide) fl12_29 rfl ?_
  refine tm_iconst dX12_setArg_15 ?_
  refine tm_iload_n dX12_setArg_16 rfl 1 rfl ?_
  refine tm_imul dX12_setArg_17 ?_
  refine tm_iload_n dX12_setArg_18 rfl 2 rfl ?_
  refine tm_iadd dX12_setArg_19 ?_
  refine tm_iload dX12_setArg_20 4 rfl ?_
  refine tm_iast (z := (4 * x) + i) (v := w) dX12_setArg_22 (show mT[6]? = some (8, 0, 11440) from rfl) (by omega) (by omega) (by decide) ?_
  exact tm_vret rfl dX12_setArg_23 (⟨rfl, rfl⟩)
theorem fl12_13 : Cond.fieldLink RX12 13 (TX12 3).1 (TX12 3).2.1 (TX12 3).2.2.1 ∈ pWW := pw7 (List.mem_of_getElem? (i := 10) rfl) rfl
theorem fl12_17 : Cond.fieldLink RX12 17 (TX12 4).1 (TX12 4).2.1 (TX12 4).2.2.1 ∈ pWW := pw7 (List.mem_of_getElem? (i := 11) rfl) rfl
theorem fl12_20 : Cond.fieldLink RX12 20 (TX12 5).1 (TX12 5).2.1 (TX12 5).2.2.1 ∈ pWW := pw7 (List.mem_of_getElem? (i := 12) rfl) rfl
theorem fl12_23 : Cond.fieldLink RX12 23 (TX12 6).1 (TX12 6).2.1 (TX12 6).2.2.1 ∈ pWW := pw7 (List.mem_of_getElem? (i := 13) rfl) rfl
theorem dX12_setItem_0 : decode cX12_setItem 0 = .ok (.aload_n 0, 1) := by decide +kernel
theorem dX12_setItem_1 : decode cX12_setItem 1 = .ok (.getfield 13, 3) := by decide +kernel
theorem dX12_setItem_4 : decode cX12_setItem 4 = .ok (.iload_n 1, 1) := by decide +kernel
theorem dX12_setItem_5 : decode cX12_setItem 5 = .ok (.iload_n 2, 1) := by decide +kernel
theorem dX12_setItem_6 : decode cX12_setItem 6 = .ok (.iastore, 1) := by decide +kernel
theorem dX12_setItem_7 : decode cX12_setItem 7 = .ok (.aload_n 0, 1) := by decide +kernel
theorem dX12_setItem_8 : decode cX12_setItem 8 = .ok (.getfield 17, 3) := by decide +kernel
theorem dX12_setItem_11 : decode cX12_setItem 11 = .ok (.iload_n 1, 1) := by decide +kernel
theorem dX12_setItem_12 : decode cX12_setItem 12 = .ok (.iload_n 3, 1) := by decide +kernel
theorem dX12_setItem_13 : decode cX12_setItem 13 = .ok (.iastore, 1) := by decide +kernel
theorem dX12_setItem_14 : decode cX12_setItem 14 = .ok (.aload_n 0, 1) := by decide +kernel
theorem dX12_setItem_15 : decode cX12_setItem 15 = .ok (.getfield 20, 3) := by decide +kernel
theorem dX12_setItem_18 : decode cX12_setItem 18 = .ok (.iload_n 1, 1) := by decide +kernel
theorem dX12_setItem_19 : decode cX12_setItem 19 = .ok (.iload 4, 2) := by decide +kernel
theorem dX12_setItem_21 : decode cX12_setItem 21 = .ok (.iastore, 1) := by decide +kernel
theorem dX12_setItem_22 : decode cX12_setItem 22 = .ok (.aload_n 0, 1) := by decide +kernel
theorem dX12_setItem_23 : decode cX12_setItem 23 = .ok (.getfield 23, 3) := by decide +kernel
theorem dX12_setItem_26 : decode cX12_setItem 26 = .ok (.iload_n 1, 1) := by decide +kernel
theorem dX12_setItem_27 : decode cX12_setItem 27 = .ok (.iconst 0, 1) := by decide +kernel
theorem dX12_setItem_28 : decode cX12_setItem 28 = .ok (.iastore, 1) := by decide +kernel
theorem dX12_setItem_29 : decode cX12_setItem 29 = .ok (.iconst 0, 1) := by decide +kernel
theorem dX12_setItem_30 : decode cX12_setItem 30 = .ok (.istore 5, 2) := by decide +kernel
theorem dX12_setItem_32 : decode cX12_setItem 32 = .ok (.iload 5, 2) := by decide +kernel
theorem dX12_setItem_34 : decode cX12_setItem 34 = .ok (.iconst 4, 1) := by decide +kernel
theorem dX12_setItem_35 : decode cX12_setItem 35 = .ok (.if_icmp .ge 33, 3) := by decide +kernel
theorem dX12_setItem_38 : decode cX12_setItem 38 = .ok (.aload_n 0, 1) := by decide +kernel
theorem dX12_setItem_39 : decode cX12_setItem 39 = .ok (.getfield 26, 3) := by decide +kernel
theorem dX12_setItem_42 : decode cX12_setItem 42 = .ok (.iconst 4, 1) := by decide +kernel
theorem dX12_setItem_43 : decode cX12_setItem 43 = .ok (.iload_n 1, 1) := by decide +kernel
theorem dX12_setItem_44 : decode cX12_setItem 44 = .ok (.imul, 1) := by decide +kernel
theorem dX12_setItem_45 : decode cX12_setItem 45 = .ok (.iload 5, 2) := by decide +kernel
theorem dX12_setItem_47 : decode cX12_setItem 47 = .ok (.iadd, 1) := by decide +kernel
theorem dX12_setItem_48 : decode cX12_setItem 48 = .ok (.iconst 0, 1) := by decide +kernel
theorem dX12_setItem_49 : decode cX12_setItem 49 = .ok (.iastore, 1) := by decide +kernel
theorem dX12_setItem_50 : decode cX12_setItem 50 = .ok (.aload_n 0, 1) := by decide +kernel
theorem dX12_setItem_51 : decode cX12_setItem 51 = .ok (.getfield 29, 3) := by decide +kernel
theorem dX12_setItem_54 : decode cX12_setItem 54 = .ok (.iconst 4, 1) := by decide +kernel
theorem dX12_setItem_55 : decode cX12_setItem 55 = .ok (.iload_n 1, 1) := by decide +kernel
theorem dX12_setItem_56 : decode cX12_setItem 56 = .ok (.imul, 1) := by decide +kernel
theorem dX12_setItem_57 : decode cX12_setItem 57 = .ok (.iload 5, 2) := by decide +kernel
theorem dX12_setItem_59 : decode cX12_setItem 59 = .ok (.iadd, 1) := by decide +kernel
theorem dX12_setItem_60 : decode cX12_setItem 60 = .ok (.iconst 0, 1) := by decide +kernel
theorem dX12_setItem_61 : decode cX12_setItem 61 = .ok (.iastore, 1) := by decide +kernel
theorem dX12_setItem_62 : decode cX12_setItem 62 = .ok (.iinc 5 1, 3) := by decide +kernel
theorem dX12_setItem_65 : decode cX12_setItem 65 = .ok (.goto (-33), 3) := by decide +kernel
theorem dX12_setItem_68 : decode cX12_setItem 68 = .ok (.return_, 1) := by decide +kernel
set_option maxRecDepth 20000 in
theorem c_X12_setItem (d : Nat) {b : Nat} {σ : MS} {x : Int} {k : Int} {e : Int} {o : Int} (hx : 0 ≤ x ∧ x < 2860) : Tm (d + 1) m_X12_setItem 0 b σ [(0, .ref b), (1, .int (iI x)), (2, .int (iI k)), (3, .int (iI e)), (4, .int (iI o))] [] (fun ro σ2 => ro = none ∧ (σ2 = fItem x k e o σ)) := by
  refine tm_aload_n dX12_setItem_0 rfl 0 rfl ?_
  refine tm_get (k := 3) (v := .ref (b + 1 + 1)) lay_12 dX12_setItem_1 (by decide) fl12_13 rfl ?_
  refine tm_iload_n dX12_setItem_4 rfl 1 rfl ?_
  refine tm_iload_n dX12_setItem_5 rfl 2 rfl ?_
  refine tm_iast (z := x) (v := k) dX12_setItem_6 (show mT[1]? = some (3, 0, 2860) from rfl) (by omega) (by omega) (by decide) ?_
  refine tm_aload_n dX12_setItem_7 rfl 0 rfl ?_
  refine tm_get (k := 4) (v := .ref (b + 1 + 2)) lay_12 dX12_setItem_8 (by decide) fl12_17 rfl ?_
  refine tm_iload_n dX12_setItem_11 rfl 1 rfl ?_
  refine tm_iload_n dX12_setItem_12 rfl 3 rfl ?_
  refine tm_iast (z := x) (v := e) dX12_setItem_13 (show mT[2]? = some (4, 0, 2860) from rfl) (by omega) (by omega) (by decide) ?_
  refine tm_aload_n dX12_setItem_14 rfl 0 rfl ?_
  refine tm_get (k := 5) (v := .ref (b + 1 + 3)) lay_12 dX12_setItem_15 (by decide) fl12_20 rfl ?_
  refine tm_iload_n dX12_setItem_18 rfl 1 rfl ?_
  refine tm_iload dX12_setItem_19 4 rfl ?_
  refine tm_iast (z := x) (v := o) dX12_setItem_21 (show mT[3]? = some (5, 0, 2860) from rfl) (by omega) (by omega) (by decide) ?_
  refine tm_aload_n dX12_setItem_22 rfl 0 rfl ?_
  refine tm_get (k := 6) (v := .ref (b + 1 + 4)) lay_12 dX12_setItem_23 (by decide) fl12_23 rfl ?_
  refine tm_iload_n dX12_setItem_26 rfl 1 rfl ?_
  refine tm_iconst dX12_setItem_27 ?_
  refine tm_iast (z := x) (v := 0) dX12_setItem_28 (show mT[4]? = some (6, 0, 2860) from rfl) (by omega) (by omega) (by decide) ?_
  refine tm_iconst dX12_setItem_29 ?_
  refine tm_istore (L' := [(5, .int (iI 0)), (0, .ref b), (1, .int (iI x)), (2, .int (iI k)), (3, .int (iI e)), (4, .int (iI o))]) dX12_setItem_30 (by decide) rfl ?_
  refine tm_iload dX12_setItem_32 0 rfl ?_
  refine tm_iconst dX12_setItem_34 ?_
  refine tm_icmp_ge (tgt := 68) dX12_setItem_35 (by decide) ⟨by decide, by decide⟩ ⟨by decide, by decide⟩ (fun h => absurd h (by decide)) (fun _ => ?_)
  refine tm_aload_n dX12_setItem_38 rfl 1 rfl ?_
  refine tm_get (k := 7) (v := .ref (b + 1 + 5)) lay_12 dX12_setItem_39 (by decide) fl12_26 rfl ?_
  refine tm_iconst dX12_setItem_42 ?_
  refine tm_iload_n dX12_setItem_43 rfl 2 rfl ?_
  refine tm_imul dX12_setItem_44 ?_
  refine tm_iload dX12_setItem_45 0 rfl ?_
  refine tm_iadd dX12_setItem_47 ?_
  refine tm_iconst dX12_setItem_48 ?_
  refine tm_iast (z := (4 * x) + 0) (v := 0) dX12_setItem_49 (show mT[5]? = some (7, 0, 11440) from rfl) (by omega) (by omega) (by decide) ?_
  refine tm_aload_n dX12_setItem_50 rfl 1 rfl ?_
  refine tm_get (k := 8) (v := .ref (b + 1 + 6)) lay_12 dX12_setItem_51 (by decide) fl12_29 rfl ?_
  refine tm_iconst dX12_setItem_54 ?_
  refine tm_iload_n dX12_setItem_55 rfl 2 rfl ?_
  refine tm_imul dX12_setItem_56 ?_
  refine tm_iload dX12_setItem_57 0 rfl ?_
  refine tm_iadd dX12_setItem_59 ?_
  refine tm_iconst dX12_setItem_60 ?_
  refine tm_iast (z := (4 * x) + 0) (v := 0) dX12_setItem_61 (show mT[6]? = some (8, 0, 11440) from rfl) (by omega) (by omega) (by decide) ?_
  refine tm_iinc (q0 := 0) (L' := [(5, .int (iI 1)), (0, .ref b), (1, .int (iI x)), (2, .int (iI k)), (3, .int (iI e)), (4, .int (iI o))]) dX12_setItem_62 rfl (by decide) rfl ?_
  refine tm_goto (tgt := 32) dX12_setItem_65 (by decide) ?_
  refine tm_iload dX12_setItem_32 0 rfl ?_
  refine tm_iconst dX12_setItem_34 ?_
  refine tm_icmp_ge (tgt := 68) dX12_setItem_35 (by decide) ⟨by decide, by decide⟩ ⟨by decide, by decide⟩ (fun h => absurd h (by decide)) (fun _ => ?_)
  refine tm_aload_n dX12_setItem_38 rfl 1 rfl ?_
  refine tm_get (k := 7) (v := .ref (b + 1 + 5)) lay_12 dX12_setItem_39 (by decide) fl12_26 rfl ?_
  refine tm_iconst dX12_setItem_42 ?_
  refine tm_iload_n dX12_setItem_43 rfl 2 rfl ?_
  refine tm_imul dX12_setItem_44 ?_
  refine tm_iload dX12_setItem_45 0 rfl ?_
  refine tm_iadd dX12_setItem_47 ?_
  refine tm_iconst dX12_setItem_48 ?_
  refine tm_iast (z := (4 * x) + 1) (v := 0) dX12_setItem_49 (show mT[5]? = some (7, 0, 11440) from rfl) (by omega) (by omega) (by decide) ?_
  refine tm_aload_n dX12_setItem_50 rfl 1 rfl ?_
  refine tm_get (k := 8) (v := .ref (b + 1 + 6)) lay_12 dX12_setItem_51 (by decide) fl12_29 rfl ?_
  refine tm_iconst dX12_setItem_54 ?_
  refine tm_iload_n dX12_setItem_55 rfl 2 rfl ?_
  refine tm_imul dX12_setItem_56 ?_
  refine tm_iload dX12_setItem_57 0 rfl ?_
  refine tm_iadd dX12_setItem_59 ?_
  refine tm_iconst dX12_setItem_60 ?_
  refine tm_iast (z := (4 * x) + 1) (v := 0) dX12_setItem_61 (show mT[6]? = some (8, 0, 11440) from rfl) (by omega) (by omega) (by decide) ?_
  refine tm_iinc (q0 := 0) (L' := [(5, .int (iI 2)), (0, .ref b), (1, .int (iI x)), (2, .int (iI k)), (3, .int (iI e)), (4, .int (iI o))]) dX12_setItem_62 rfl (by decide) rfl ?_
  refine tm_goto (tgt := 32) dX12_setItem_65 (by decide) ?_
  refine tm_iload dX12_setItem_32 0 rfl ?_
  refine tm_iconst dX12_setItem_34 ?_
  refine tm_icmp_ge (tgt := 68) dX12_setItem_35 (by decide) ⟨by decide, by decide⟩ ⟨by decide, by decide⟩ (fun h => absurd h (by decide)) (fun _ => ?_)
  refine tm_aload_n dX12_setItem_38 rfl 1 rfl ?_
  refine tm_get (k := 7) (v := .ref (b + 1 + 5)) lay_12 dX12_setItem_39 (by decide) fl12_26 rfl ?_
  refine tm_iconst dX12_setItem_42 ?_
  refine tm_iload_n dX12_setItem_43 rfl 2 rfl ?_
  refine tm_imul dX12_setItem_44 ?_
  refine tm_iload dX12_setItem_45 0 rfl ?_
  refine tm_iadd dX12_setItem_47 ?_
  refine tm_iconst dX12_setItem_48 ?_
  refine tm_iast (z := (4 * x) + 2) (v := 0) dX12_setItem_49 (show mT[5]? = some (7, 0, 11440) from rfl) (by omega) (by omega) (by decide) ?_
  refine tm_aload_n dX12_setItem_50 rfl 1 rfl ?_
  refine tm_get (k := 8) (v := .ref (b + 1 + 6)) lay_12 dX12_setItem_51 (by decide) fl12_29 rfl ?_
  refine tm_iconst dX12_setItem_54 ?_
  refine tm_iload_n dX12_setItem_55 rfl 2 rfl ?_
  refine tm_imul dX12_setItem_56 ?_
  refine tm_iload dX12_setItem_57 0 rfl ?_
  refine tm_iadd dX12_setItem_59 ?_
  refine tm_iconst dX12_setItem_60 ?_
  refine tm_iast (z := (4 * x) + 2) (v := 0) dX12_setItem_61 (show mT[6]? = some (8, 0, 11440) from rfl) (by omega) (by omega) (by decide) ?_
  refine tm_iinc (q0 := 0) (L' := [(5, .int (iI 3)), (0, .ref b), (1, .int (iI x)), (2, .int (iI k)), (3, .int (iI e)), (4, .int (iI o))]) dX12_setItem_62 rfl (by decide) rfl ?_
  refine tm_goto (tgt := 32) dX12_setItem_65 (by decide) ?_
  refine tm_iload dX12_setItem_32 0 rfl ?_
  refine tm_iconst dX12_setItem_34 ?_
  refine tm_icmp_ge (tgt := 68) dX12_setItem_35 (by decide) ⟨by decide, by decide⟩ ⟨by decide, by decide⟩ (fun h => absurd h (by decide)) (fun _ => ?_)
  refine tm_aload_n dX12_setItem_38 rfl 1 rfl ?_
  refine tm_get (k := 7) (v := .ref (b + 1 + 5)) lay_12 dX12_setItem_39 (by decide) fl12_26 rfl ?_
  refine tm_iconst dX12_setItem_42 ?_
  refine tm_iload_n dX12_setItem_43 rfl 2 rfl ?_
  refine tm_imul dX12_setItem_44 ?_
  refine tm_iload dX12_setItem_45 0 rfl ?_
  refine tm_iadd dX12_setItem_47 ?_
  refine tm_iconst dX12_setItem_48 ?_
  refine tm_iast (z := (4 * x) + 3) (v := 0) dX12_setItem_49 (show mT[5]? = some (7, 0, 11440) from rfl) (by omega) (by omega) (by decide) ?_
  refine tm_aload_n dX12_setItem_50 rfl 1 rfl ?_
  refine tm_get (k := 8) (v := .ref (b + 1 + 6)) lay_12 dX12_setItem_51 (by decide) fl12_29 rfl ?_
  refine tm_iconst dX12_setItem_54 ?_
  refine tm_iload_n dX12_setItem_55 rfl 2 rfl ?_
  refine tm_imul dX12_setItem_56 ?_
  refine tm_iload dX12_setItem_57 0 rfl ?_
  refine tm_iadd dX12_setItem_59 ?_
  refine tm_iconst dX12_setItem_60 ?_
  refine tm_iast (z := (4 * x) + 3) (v := 0) dX12_setItem_61 (show mT[6]? = some (8, 0, 11440) from rfl) (by omega) (by omega) (by decide) ?_
  refine tm_iinc (q0 := 0) (L' := [(5, .int (iI 4)), (0, .ref b), (1, .int (iI x)), (2, .int (iI k)), (3, .int (iI e)), (4, .int (iI o))]) dX12_setItem_62 rfl (by decide) rfl ?_
  refine tm_goto (tgt := 32) dX12_setItem_65 (by decide) ?_
  refine tm_iload dX12_setItem_32 0 rfl ?_
  refine tm_iconst dX12_setItem_34 ?_
  refine tm_icmp_ge (tgt := 68) dX12_setItem_35 (by decide) ⟨by decide, by decide⟩ ⟨by decide, by decide⟩ (fun _ => ?_) (fun h => absurd h (by decide))
  exact tm_vret rfl dX12_setItem_68 (⟨rfl, rfl⟩)
theorem dX12_copyItem_0 : decode cX12_copyItem 0 = .ok (.aload_n 0, 1) := by decide +kernel
theorem dX12_copyItem_1 : decode cX12_copyItem 1 = .ok (.getfield 13, 3) := by decide +kernel
theorem dX12_copyItem_4 : decode cX12_copyItem 4 = .ok (.iload_n 2, 1) := by decide +kernel
theorem dX12_copyItem_5 : decode cX12_copyItem 5 = .ok (.aload_n 0, 1) := by decide +kernel
theorem dX12_copyItem_6 : decode cX12_copyItem 6 = .ok (.getfield 13, 3) := by decide +kernel
theorem dX12_copyItem_9 : decode cX12_copyItem 9 = .ok (.iload_n 1, 1) := by decide +kernel
theorem dX12_copyItem_10 : decode cX12_copyItem 10 = .ok (.iaload, 1) := by decide +kernel
theorem dX12_copyItem_11 : decode cX12_copyItem 11 = .ok (.iastore, 1) := by decide +kernel
theorem dX12_copyItem_12 : decode cX12_copyItem 12 = .ok (.aload_n 0, 1) := by decide +kernel
theorem dX12_copyItem_13 : decode cX12_copyItem 13 = .ok (.getfield 17, 3) := by decide +kernel
theorem dX12_copyItem_16 : decode cX12_copyItem 16 = .ok (.iload_n 2, 1) := by decide +kernel
theorem dX12_copyItem_17 : decode cX12_copyItem 17 = .ok (.aload_n 0, 1) := by decide +kernel
theorem dX12_copyItem_18 : decode cX12_copyItem 18 = .ok (.getfield 17, 3) := by decide +kernel
theorem dX12_copyItem_21 : decode cX12_copyItem 21 = .ok (.iload_n 1, 1) := by decide +kernel
theorem dX12_copyItem_22 : decode cX12_copyItem 22 = .ok (.iaload, 1) := by decide +kernel
theorem dX12_copyItem_23 : decode cX12_copyItem 23 = .ok (.iastore, 1) := by decide +kernel
theorem dX12_copyItem_24 : decode cX12_copyItem 24 = .ok (.aload_n 0, 1) := by decide +kernel
theorem dX12_copyItem_25 : decode cX12_copyItem 25 = .ok (.getfield 20, 3) := by decide +kernel
theorem dX12_copyItem_28 : decode cX12_copyItem 28 = .ok (.iload_n 2, 1) := by decide +kernel
theorem dX12_copyItem_29 : decode cX12_copyItem 29 = .ok (.aload_n 0, 1) := by decide +kernel
theorem dX12_copyItem_30 : decode cX12_copyItem 30 = .ok (.getfield 20, 3) := by decide +kernel
theorem dX12_copyItem_33 : decode cX12_copyItem 33 = .ok (.iload_n 1, 1) := by decide +kernel
theorem dX12_copyItem_34 : decode cX12_copyItem 34 = .ok (.iaload, 1) := by decide +kernel
theorem dX12_copyItem_35 : decode cX12_copyItem 35 = .ok (.iastore, 1) := by decide +kernel
theorem dX12_copyItem_36 : decode cX12_copyItem 36 = .ok (.aload_n 0, 1) := by decide +kernel
theorem dX12_copyItem_37 : decode cX12_copyItem 37 = .ok (.getfield 23, 3) := by decide +kernel
theorem dX12_copyItem_40 : decode cX12_copyItem 40 = .ok (.iload_n 2, 1) := by decide +kernel
theorem dX12_copyItem_41 : decode cX12_copyItem 41 = .ok (.aload_n 0, 1) := by decide +kernel
theorem dX12_copyItem_42 : decode cX12_copyItem 42 = .ok (.getfield 23, 3) := by decide +kernel
theorem dX12_copyItem_45 : decode cX12_copyItem 45 = .ok (.iload_n 1, 1) := by decide +kernel
theorem dX12_copyItem_46 : decode cX12_copyItem 46 = .ok (.iaload, 1) := by decide +kernel
theorem dX12_copyItem_47 : decode cX12_copyItem 47 = .ok (.iastore, 1) := by decide +kernel
theorem dX12_copyItem_48 : decode cX12_copyItem 48 = .ok (.iconst 0, 1) := by decide +kernel
theorem dX12_copyItem_49 : decode cX12_copyItem 49 = .ok (.istore_n 3, 1) := by decide +kernel
theorem dX12_copyItem_50 : decode cX12_copyItem 50 = .ok (.iload_n 3, 1) := by decide +kernel
theorem dX12_copyItem_51 : decode cX12_copyItem 51 = .ok (.iconst 4, 1) := by decide +kernel
theorem dX12_copyItem_52 : decode cX12_copyItem 52 = .ok (.if_icmp .ge 49, 3) := by decide +kernel
theorem dX12_copyItem_55 : decode cX12_copyItem 55 = .ok (.aload_n 0, 1) := by decide +kernel
theorem dX12_copyItem_56 : decode cX12_copyItem 56 = .ok (.getfield 26, 3) := by decide +kernel
theorem dX12_copyItem_59 : decode cX12_copyItem 59 = .ok (.iconst 4, 1) := by decide +kernel
theorem dX12_copyItem_60 : decode cX12_copyItem 60 = .ok (.iload_n 2, 1) := by decide +kernel
theorem dX12_copyItem_61 : decode cX12_copyItem 61 = .ok (.imul, 1) := by decide +kernel
theorem dX12_copyItem_62 : decode cX12_copyItem 62 = .ok (.iload_n 3, 1) := by decide +kernel
theorem dX12_copyItem_63 : decode cX12_copyItem 63 = .ok (.iadd, 1) := by decide +kernel
theorem dX12_copyItem_64 : decode cX12_copyItem 64 = .ok (.aload_n 0, 1) := by decide +kernel
theorem dX12_copyItem_65 : decode cX12_copyItem 65 = .ok (.getfield 26, 3) := by decide +kernel
theorem dX12_copyItem_68 : decode cX12_copyItem 68 = .ok (.iconst 4, 1) := by decide +kernel
theorem dX12_copyItem_69 : decode cX12_copyItem 69 = .ok (.iload_n 1, 1) := by decide +kernel
theorem dX12_copyItem_70 : decode cX12_copyItem 70 = .ok (.imul, 1) := by decide +kernel
theorem dX12_copyItem_71 : decode cX12_copyItem 71 = .ok (.iload_n 3, 1) := by decide +kernel
theorem dX12_copyItem_72 : decode cX12_copyItem 72 = .ok (.iadd, 1) := by decide +kernel
theorem dX12_copyItem_73 : decode cX12_copyItem 73 = .ok (.iaload, 1) := by decide +kernel
theorem dX12_copyItem_74 : decode cX12_copyItem 74 = .ok (.iastore, 1) := by decide +kernel
theorem dX12_copyItem_75 : decode cX12_copyItem 75 = .ok (.aload_n 0, 1) := by decide +kernel
theorem dX12_copyItem_76 : decode cX12_copyItem 76 = .ok (.getfield 29, 3) := by decide +kernel
theorem dX12_copyItem_79 : decode cX12_copyItem 79 = .ok (.iconst 4, 1) := by decide +kernel
theorem dX12_copyItem_80 : decode cX12_copyItem 80 = .ok (.iload_n 2, 1) := by decide +kernel
theorem dX12_copyItem_81 : decode cX12_copyItem 81 = .ok (.imul, 1) := by decide +kernel
theorem dX12_copyItem_82 : decode cX12_copyItem 82 = .ok (.iload_n 3, 1) := by decide +kernel
theorem dX12_copyItem_83 : decode cX12_copyItem 83 = .ok (.iadd, 1) := by decide +kernel
theorem dX12_copyItem_84 : decode cX12_copyItem 84 = .ok (.aload_n 0, 1) := by decide +kernel
theorem dX12_copyItem_85 : decode cX12_copyItem 85 = .ok (.getfield 29, 3) := by decide +kernel
theorem dX12_copyItem_88 : decode cX12_copyItem 88 = .ok (.iconst 4, 1) := by decide +kernel
theorem dX12_copyItem_89 : decode cX12_copyItem 89 = .ok (.iload_n 1, 1) := by decide +kernel
theorem dX12_copyItem_90 : decode cX12_copyItem 90 = .ok (.imul, 1) := by decide +kernel
theorem dX12_copyItem_91 : decode cX12_copyItem 91 = .ok (.iload_n 3, 1) := by decide +kernel
theorem dX12_copyItem_92 : decode cX12_copyItem 92 = .ok (.iadd, 1) := by decide +kernel
theorem dX12_copyItem_93 : decode cX12_copyItem 93 = .ok (.iaload, 1) := by decide +kernel
theorem dX12_copyItem_94 : decode cX12_copyItem 94 = .ok (.iastore, 1) := by decide +kernel
theorem dX12_copyItem_95 : decode cX12_copyItem 95 = .ok (.iinc 3 1, 3) := by decide +kernel
theorem dX12_copyItem_98 : decode cX12_copyItem 98 = .ok (.goto (-48), 3) := by decide +kernel
theorem dX12_copyItem_101 : decode cX12_copyItem 101 = .ok (.return_, 1) := by decide +kernel
set_option maxRecDepth 20000 in
theorem c_X12_copyItem (d : Nat) {b : Nat} {σ : MS} {f : Int} {t : Int} (hf : 0 ≤ f ∧ f < 2860) (ht : 0 ≤ t ∧ t < 2860) : Tm (d + 1) m_X12_copyItem 0 b σ [(0, .ref b), (1, .int (iI f)), (2, .int (iI t))] [] (fun ro σ2 => ro = none ∧ (σ2 = fCopy f t σ)) := by
  refine tm_aload_n dX12_copyItem_0 rfl 0 rfl ?_
  refine tm_get (k := 3) (v := .ref (b + 1 + 1)) lay_12 dX12_copyItem_1 (by decide) fl12_13 rfl ?_
  refine tm_iload_n dX12_copyItem_4 rfl 2 rfl ?_
  refine tm_aload_n dX12_copyItem_5 rfl 0 rfl ?_
  refine tm_get (k := 3) (v := .ref (b + 1 + 1)) lay_12 dX12_copyItem_6 (by decide) fl12_13 rfl ?_
  refine tm_iload_n dX12_copyItem_9 rfl 1 rfl ?_
  refine tm_iald (z := f) (v := σ.2.1 3 f) dX12_copyItem_10 (show mT[1]? = some (3, 0, 2860) from rfl) (by omega) (by omega) (by decide) (rfl) ?_
  refine tm_iast (z := t) (v := σ.2.1 3 f) dX12_copyItem_11 (show mT[1]? = some (3, 0, 2860) from rfl) (by omega) (by omega) (by decide) ?_
  refine tm_aload_n dX12_copyItem_12 rfl 0 rfl ?_
  refine tm_get (k := 4) (v := .ref (b + 1 + 2)) lay_12 dX12_copyItem_13 (by decide) fl12_17 rfl ?_
  refine tm_iload_n dX12_copyItem_16 rfl 2 rfl ?_
  refine tm_aload_n dX12_copyItem_17 rfl 0 rfl ?_
  refine tm_get (k := 4) (v := .ref (b + 1 + 2)) lay_12 dX12_copyItem_18 (by decide) fl12_17 rfl ?_
  refine tm_iload_n dX12_copyItem_21 rfl 1 rfl ?_
  refine tm_iald (z := f) (v := σ.2.1 4 f) dX12_copyItem_22 (show mT[2]? = some (4, 0, 2860) from rfl) (by omega) (by omega) (by decide) (ra_o (by decide) (rfl)) ?_
  refine tm_iast (z := t) (v := σ.2.1 4 f) dX12_copyItem_23 (show mT[2]? = some (4, 0, 2860) from rfl) (by omega) (by omega) (by decide) ?_
  refine tm_aload_n dX12_copyItem_24 rfl 0 rfl ?_
  refine tm_get (k := 5) (v := .ref (b + 1 + 3)) lay_12 dX12_copyItem_25 (by decide) fl12_20 rfl ?_
  refine tm_iload_n dX12_copyItem_28 rfl 2 rfl ?_
  refine tm_aload_n dX12_copyItem_29 rfl 0 rfl ?_
  refine tm_get (k := 5) (v := .ref (b + 1 + 3)) lay_12 dX12_copyItem_30 (by decide) fl12_20 rfl ?_
  refine tm_iload_n dX12_copyItem_33 rfl 1 rfl ?_
  refine tm_iald (z := f) (v := σ.2.1 5 f) dX12_copyItem_34 (show mT[3]? = some (5, 0, 2860) from rfl) (by omega) (by omega) (by decide) (ra_o (by decide) (ra_o (by decide) (rfl))) ?_
  refine tm_iast (z := t) (v := σ.2.1 5 f) dX12_copyItem_35 (show mT[3]? = some (5, 0, 2860) from rfl) (by omega) (by omega) (by decide) ?_
  refine tm_aload_n dX12_copyItem_36 rfl 0 rfl ?_
  refine tm_get (k := 6) (v := .ref (b + 1 + 4)) lay_12 dX12_copyItem_37 (by decide) fl12_23 rfl ?_
  refine tm_iload_n dX12_copyItem_40 rfl 2 rfl ?_
  refine tm_aload_n dX12_copyItem_41 rfl 0 rfl ?_
  refine tm_get (k := 6) (v := .ref (b + 1 + 4)) lay_12 dX12_copyItem_42 (by decide) fl12_23 rfl ?_
  refine tm_iload_n dX12_copyItem_45 rfl 1 rfl ?_
  refine tm_iald (z := f) (v := σ.2.1 6 f) dX12_copyItem_46 (show mT[4]? = some (6, 0, 2860) from rfl) (by omega) (by omega) (by decide) (ra_o (by decide) (ra_o (by decide) (ra_o (by decide) (rfl)))) ?_
  refine tm_iast (z := t) (v := σ.2.1 6 f) dX12_copyItem_47 (show mT[4]? = some (6, 0, 2860) from rfl) (by omega) (by omega) (by decide) ?_
  refine tm_iconst dX12_copyItem_48 ?_
  refine tm_istore_n (L' := [(3, .int (iI 0)), (0, .ref b), (1, .int (iI f)), (2, .int (iI t))]) dX12_copyItem_49 rfl (by decide) rfl ?_
  refine tm_iload_n dX12_copyItem_50 rfl 0 rfl ?_
  refine tm_iconst dX12_copyItem_51 ?_
  refine tm_icmp_ge (tgt := 101) dX12_copyItem_52 (by decide) ⟨by decide, by decide⟩ ⟨by decide, by decide⟩ (fun h => absurd h (by decide)) (fun _ => ?_)
  refine tm_aload_n dX12_copyItem_55 rfl 1 rfl ?_
  refine tm_get (k := 7) (v := .ref (b + 1 + 5)) lay_12 dX12_copyItem_56 (by decide) fl12_26 rfl ?_
  refine tm_iconst dX12_copyItem_59 ?_
  refine tm_iload_n dX12_copyItem_60 rfl 3 rfl ?_
  refine tm_imul dX12_copyItem_61 ?_
  refine tm_iload_n dX12_copyItem_62 rfl 0 rfl ?_
  refine tm_iadd dX12_copyItem_63 ?_
  refine tm_aload_n dX12_copyItem_64 rfl 1 rfl ?_
  refine tm_get (k := 7) (v := .ref (b + 1 + 5)) lay_12 dX12_copyItem_65 (by decide) fl12_26 rfl ?_
  refine tm_iconst dX12_copyItem_68 ?_
  refine tm_iload_n dX12_copyItem_69 rfl 2 rfl ?_
  refine tm_imul dX12_copyItem_70 ?_
  refine tm_iload_n dX12_copyItem_71 rfl 0 rfl ?_
  refine tm_iadd dX12_copyItem_72 ?_
  refine tm_iald (z := (4 * f) + 0) (v := σ.2.1 7 ((4 * f) + 0)) dX12_copyItem_73 (show mT[5]? = some (7, 0, 11440) from rfl) (by omega) (by omega) (by decide) (ra_o (by decide) (ra_o (by decide) (ra_o (by decide) (ra_o (by decide) (rfl))))) ?_
  refine tm_iast (z := (4 * t) + 0) (v := σ.2.1 7 ((4 * f) + 0)) dX12_copyItem_74 (show mT[5]? = some (7, 0, 11440) from rfl) (by omega) (by omega) (by decide) ?_
  refine tm_aload_n dX12_copyItem_75 rfl 1 rfl ?_
  refine tm_get (k := 8) (v := .ref (b + 1 + 6)) lay_12 dX12_copyItem_76 (by decide) fl12_29 rfl ?_
  refine tm_iconst dX12_copyItem_79 ?_
  refine tm_iload_n dX12_copyItem_80 rfl 3 rfl ?_
  refine tm_imul dX12_copyItem_81 ?_
  refine tm_iload_n dX12_copyItem_82 rfl 0 rfl ?_
  refine tm_iadd dX12_copyItem_83 ?_
  refine tm_aload_n dX12_copyItem_84 rfl 1 rfl ?_
  refine tm_get (k := 8) (v := .ref (b + 1 + 6)) lay_12 dX12_copyItem_85 (by decide) fl12_29 rfl ?_
  refine tm_iconst dX12_copyItem_88 ?_
  refine tm_iload_n dX12_copyItem_89 rfl 2 rfl ?_
  refine tm_imul dX12_copyItem_90 ?_
  refine tm_iload_n dX12_copyItem_91 rfl 0 rfl ?_
  refine tm_iadd dX12_copyItem_92 ?_
  refine tm_iald (z := (4 * f) + 0) (v := σ.2.1 8 ((4 * f) + 0)) dX12_copyItem_93 (show mT[6]? = some (8, 0, 11440) from rfl) (by omega) (by omega) (by decide) (ra_o (by decide) (ra_o (by decide) (ra_o (by decide) (ra_o (by decide) (ra_o (by decide) (rfl)))))) ?_
  refine tm_iast (z := (4 * t) + 0) (v := σ.2.1 8 ((4 * f) + 0)) dX12_copyItem_94 (show mT[6]? = some (8, 0, 11440) from rfl) (by omega) (by omega) (by decide) ?_
  refine tm_iinc (q0 := 0) (L' := [(3, .int (iI 1)), (0, .ref b), (1, .int (iI f)), (2, .int (iI t))]) dX12_copyItem_95 rfl (by decide) rfl ?_
  refine tm_goto (tgt := 50) dX12_copyItem_98 (by decide) ?_
  refine tm_iload_n dX12_copyItem_50 rfl 0 rfl ?_
  refine tm_iconst dX12_copyItem_51 ?_
  refine tm_icmp_ge (tgt := 101) dX12_copyItem_52 (by decide) ⟨by decide, by decide⟩ ⟨by decide, by decide⟩ (fun h => absurd h (by decide)) (fun _ => ?_)
  refine tm_aload_n dX12_copyItem_55 rfl 1 rfl ?_
  refine tm_get (k := 7) (v := .ref (b + 1 + 5)) lay_12 dX12_copyItem_56 (by decide) fl12_26 rfl ?_
  refine tm_iconst dX12_copyItem_59 ?_
  refine tm_iload_n dX12_copyItem_60 rfl 3 rfl ?_
  refine tm_imul dX12_copyItem_61 ?_
  refine tm_iload_n dX12_copyItem_62 rfl 0 rfl ?_
  refine tm_iadd dX12_copyItem_63 ?_
  refine tm_aload_n dX12_copyItem_64 rfl 1 rfl ?_
  refine tm_get (k := 7) (v := .ref (b + 1 + 5)) lay_12 dX12_copyItem_65 (by decide) fl12_26 rfl ?_
  refine tm_iconst dX12_copyItem_68 ?_
  refine tm_iload_n dX12_copyItem_69 rfl 2 rfl ?_
  refine tm_imul dX12_copyItem_70 ?_
  refine tm_iload_n dX12_copyItem_71 rfl 0 rfl ?_
  refine tm_iadd dX12_copyItem_72 ?_
  refine tm_iald (z := (4 * f) + 1) (v := σ.2.1 7 ((4 * f) + 1)) dX12_copyItem_73 (show mT[5]? = some (7, 0, 11440) from rfl) (by omega) (by omega) (by decide) (ra_o (by decide) (ra_ne (by omega) (ra_o (by decide) (ra_o (by decide) (ra_o (by decide) (ra_o (by decide) (rfl))))))) ?_
  refine tm_iast (z := (4 * t) + 1) (v := σ.2.1 7 ((4 * f) + 1)) dX12_copyItem_74 (show mT[5]? = some (7, 0, 11440) from rfl) (by omega) (by omega) (by decide) ?_
  refine tm_aload_n dX12_copyItem_75 rfl 1 rfl ?_
  refine tm_get (k := 8) (v := .ref (b + 1 + 6)) lay_12 dX12_copyItem_76 (by decide) fl12_29 rfl ?_
  refine tm_iconst dX12_copyItem_79 ?_
  refine tm_iload_n dX12_copyItem_80 rfl 3 rfl ?_
  refine tm_imul dX12_copyItem_81 ?_
  refine tm_iload_n dX12_copyItem_82 rfl 0 rfl ?_
  refine tm_iadd dX12_copyItem_83 ?_
  refine tm_aload_n dX12_copyItem_84 rfl 1 rfl ?_
  refine tm_get (k := 8) (v := .ref (b + 1 + 6)) lay_12 dX12_copyItem_85 (by decide) fl12_29 rfl ?_
  refine tm_iconst dX12_copyItem_88 ?_
  refine tm_iload_n dX12_copyItem_89 rfl 2 rfl ?_
  refine tm_imul dX12_copyItem_90 ?_
  refine tm_iload_n dX12_copyItem_91 rfl 0 rfl ?_
  refine tm_iadd dX12_copyItem_92 ?_
  refine tm_iald (z := (4 * f) + 1) (v := σ.2.1 8 ((4 * f) + 1)) dX12_copyItem_93 (show mT[6]? = some (8, 0, 11440) from rfl) (by omega) (by omega) (by decide) (ra_o (by decide) (ra_ne (by omega) (ra_o (by decide) (ra_o (by decide) (ra_o (by decide) (ra_o (by decide) (ra_o (by decide) (rfl)))))))) ?_
  refine tm_iast (z := (4 * t) + 1) (v := σ.2.1 8 ((4 * f) + 1)) dX12_copyItem_94 (show mT[6]? = some (8, 0, 11440) from rfl) (by omega) (by omega) (by decide) ?_
  refine tm_iinc (q0 := 0) (L' := [(3, .int (iI 2)), (0, .ref b), (1, .int (iI f)), (2, .int (iI t))]) dX12_copyItem_95 rfl (by decide) rfl ?_
  refine tm_goto (tgt := 50) dX12_copyItem_98 (by decide) ?_
  refine tm_iload_n dX12_copyItem_50 rfl 0 rfl ?_
  refine tm_iconst dX12_copyItem_51 ?_
  refine tm_icmp_ge (tgt := 101) dX12_copyItem_52 (by decide) ⟨by decide, by decide⟩ ⟨by decide, by decide⟩ (fun h => absurd h (by decide)) (fun _ => ?_)
  refine tm_aload_n dX12_copyItem_55 rfl 1 rfl ?_
  refine tm_get (k := 7) (v := .ref (b + 1 + 5)) lay_12 dX12_copyItem_56 (by decide) fl12_26 rfl ?_
  refine tm_iconst dX12_copyItem_59 ?_
  refine tm_iload_n dX12_copyItem_60 rfl 3 rfl ?_
  refine tm_imul dX12_copyItem_61 ?_
  refine tm_iload_n dX12_copyItem_62 rfl 0 rfl ?_
  refine tm_iadd dX12_copyItem_63 ?_
  refine tm_aload_n dX12_copyItem_64 rfl 1 rfl ?_
  refine tm_get (k := 7) (v := .ref (b + 1 + 5)) lay_12 dX12_copyItem_65 (by decide) fl12_26 rfl ?_
  refine tm_iconst dX12_copyItem_68 ?_
  refine tm_iload_n dX12_copyItem_69 rfl 2 rfl ?_
  refine tm_imul dX12_copyItem_70 ?_
  refine tm_iload_n dX12_copyItem_71 rfl 0 rfl ?_
  refine tm_iadd dX12_copyItem_72 ?_
  refine tm_iald (z := (4 * f) + 2) (v := σ.2.1 7 ((4 * f) + 2)) dX12_copyItem_73 (show mT[5]? = some (7, 0, 11440) from rfl) (by omega) (by omega) (by decide) (ra_o (by decide) (ra_ne (by omega) (ra_o (by decide) (ra_ne (by omega) (ra_o (by decide) (ra_o (by decide) (ra_o (by decide) (ra_o (by decide) (rfl))))))))) ?_
  refine tm_iast (z := (4 * t) + 2) (v := σ.2.1 7 ((4 * f) + 2)) dX12_copyItem_74 (show mT[5]? = some (7, 0, 11440) from rfl) (by omega) (by omega) (by decide) ?_
  refine tm_aload_n dX12_copyItem_75 rfl 1 rfl ?_
  refine tm_get (k := 8) (v := .ref (b + 1 + 6)) lay_12 dX12_copyItem_76 (by decide) fl12_29 rfl ?_
  refine tm_iconst dX12_copyItem_79 ?_
  refine tm_iload_n dX12_copyItem_80 rfl 3 rfl ?_
  refine tm_imul dX12_copyItem_81 ?_
  refine tm_iload_n dX12_copyItem_82 rfl 0 rfl ?_
  refine tm_iadd dX12_copyItem_83 ?_
  refine tm_aload_n dX12_copyItem_84 rfl 1 rfl ?_
  refine tm_get (k := 8) (v := .ref (b + 1 + 6)) lay_12 dX12_copyItem_85 (by decide) fl12_29 rfl ?_
  refine tm_iconst dX12_copyItem_88 ?_
  refine tm_iload_n dX12_copyItem_89 rfl 2 rfl ?_
  refine tm_imul dX12_copyItem_90 ?_
  refine tm_iload_n dX12_copyItem_91 rfl 0 rfl ?_
  refine tm_iadd dX12_copyItem_92 ?_
  refine tm_iald (z := (4 * f) + 2) (v := σ.2.1 8 ((4 * f) + 2)) dX12_copyItem_93 (show mT[6]? = some (8, 0, 11440) from rfl) (by omega) (by omega) (by decide) (ra_o (by decide) (ra_ne (by omega) (ra_o (by decide) (ra_ne (by omega) (ra_o (by decide) (ra_o (by decide) (ra_o (by decide) (ra_o (by decide) (ra_o (by decide) (rfl)))))))))) ?_
  refine tm_iast (z := (4 * t) + 2) (v := σ.2.1 8 ((4 * f) + 2)) dX12_copyItem_94 (show mT[6]? = some (8, 0, 11440) from rfl) (by omega) (by omega) (by decide) ?_
  refine tm_iinc (q0 := 0) (L' := [(3, .int (iI 3)), (0, .ref b), (1, .int (iI f)), (2, .int (iI t))]) dX12_copyItem_95 rfl (by decide) rfl ?_
  refine tm_goto (tgt := 50) dX12_copyItem_98 (by decide) ?_
  refine tm_iload_n dX12_copyItem_50 rfl 0 rfl ?_
  refine tm_iconst dX12_copyItem_51 ?_
  refine tm_icmp_ge (tgt := 101) dX12_copyItem_52 (by decide) ⟨by decide, by decide⟩ ⟨by decide, by decide⟩ (fun h => absurd h (by decide)) (fun _ => ?_)
  refine tm_aload_n dX12_copyItem_55 rfl 1 rfl ?_
  refine tm_get (k := 7) (v := .ref (b + 1 + 5)) lay_12 dX12_copyItem_56 (by decide) fl12_26 rfl ?_
  refine tm_iconst dX12_copyItem_59 ?_
  refine tm_iload_n dX12_copyItem_60 rfl 3 rfl ?_
  refine tm_imul dX12_copyItem_61 ?_
  refine tm_iload_n dX12_copyItem_62 rfl 0 rfl ?_
  refine tm_iadd dX12_copyItem_63 ?_
  refine tm_aload_n dX12_copyItem_64 rfl 1 rfl ?_
  refine tm_get (k := 7) (v := .ref (b + 1 + 5)) lay_12 dX12_copyItem_65 (by decide) fl12_26 rfl ?_
  refine tm_iconst dX12_copyItem_68 ?_
  refine tm_iload_n dX12_copyItem_69 rfl 2 rfl ?_
  refine tm_imul dX12_copyItem_70 ?_
  refine tm_iload_n dX12_copyItem_71 rfl 0 rfl ?_
  refine tm_iadd dX12_copyItem_72 ?_
  refine tm_iald (z := (4 * f) + 3) (v := σ.2.1 7 ((4 * f) + 3)) dX12_copyItem_73 (show mT[5]? = some (7, 0, 11440) from rfl) (by omega) (by omega) (by decide) (ra_o (by decide) (ra_ne (by omega) (ra_o (by decide) (ra_ne (by omega) (ra_o (by decide) (ra_ne (by omega) (ra_o (by decide) (ra_o (by decide) (ra_o (by decide) (ra_o (by decide) (rfl))))))))))) ?_
  refine tm_iast (z := (4 * t) + 3) (v := σ.2.1 7 ((4 * f) + 3)) dX12_copyItem_74 (show mT[5]? = some (7, 0, 11440) from rfl) (by omega) (by omega) (by decide) ?_
  refine tm_aload_n dX12_copyItem_75 rfl 1 rfl ?_
  refine tm_get (k := 8) (v := .ref (b + 1 + 6)) lay_12 dX12_copyItem_76 (by decide) fl12_29 rfl ?_
  refine tm_iconst dX12_copyItem_79 ?_
  refine tm_iload_n dX12_copyItem_80 rfl 3 rfl ?_
  refine tm_imul dX12_copyItem_81 ?_
  refine tm_iload_n dX12_copyItem_82 rfl 0 rfl ?_
  refine tm_iadd dX12_copyItem_83 ?_
  refine tm_aload_n dX12_copyItem_84 rfl 1 rfl ?_
  refine tm_get (k := 8) (v := .ref (b + 1 + 6)) lay_12 dX12_copyItem_85 (by decide) fl12_29 rfl ?_
  refine tm_iconst dX12_copyItem_88 ?_
  refine tm_iload_n dX12_copyItem_89 rfl 2 rfl ?_
  refine tm_imul dX12_copyItem_90 ?_
  refine tm_iload_n dX12_copyItem_91 rfl 0 rfl ?_
  refine tm_iadd dX12_copyItem_92 ?_
  refine tm_iald (z := (4 * f) + 3) (v := σ.2.1 8 ((4 * f) + 3)) dX12_copyItem_93 (show mT[6]? = some (8, 0, 11440) from rfl) (by omega) (by omega) (by decide) (ra_o (by decide) (ra_ne (by omega) (ra_o (by decide) (ra_ne (by omega) (ra_o (by decide) (ra_ne (by omega) (ra_o (by decide) (ra_o (by decide) (ra_o (by decide) (ra_o (by decide) (ra_o (by decide) (rfl)))))))))))) ?_
  refine tm_iast (z := (4 * t) + 3) (v := σ.2.1 8 ((4 * f) + 3)) dX12_copyItem_94 (show mT[6]? = some (8, 0, 11440) from rfl) (by omega) (by omega) (by decide) ?_
  refine tm_iinc (q0 := 0) (L' := [(3, .int (iI 4)), (0, .ref b), (1, .int (iI f)), (2, .int (iI t))]) dX12_copyItem_95 rfl (by decide) rfl ?_
  refine tm_goto (tgt := 50) dX12_copyItem_98 (by decide) ?_
  refine tm_iload_n dX12_copyItem_50 rfl 0 rfl ?_
  refine tm_iconst dX12_copyItem_51 ?_
  refine tm_icmp_ge (tgt := 101) dX12_copyItem_52 (by decide) ⟨by decide, by decide⟩ ⟨by decide, by decide⟩ (fun _ => ?_) (fun h => absurd h (by decide))
  exact tm_vret rfl dX12_copyItem_101 (⟨rfl, rfl⟩)
theorem ml12_192 : Cond.methodLink RX12 192 yX12_writes ∈ pWW := pw9 (List.mem_of_getElem? (i := 52) rfl) rfl
theorem dX12_writesTo_0 : decode cX12_writesTo 0 = .ok (.aload_n 0, 1) := by decide +kernel
theorem dX12_writesTo_1 : decode cX12_writesTo 1 = .ok (.getfield 13, 3) := by decide +kernel
theorem dX12_writesTo_4 : decode cX12_writesTo 4 = .ok (.iload_n 1, 1) := by decide +kernel
theorem dX12_writesTo_5 : decode cX12_writesTo 5 = .ok (.iaload, 1) := by decide +kernel
theorem dX12_writesTo_6 : decode cX12_writesTo 6 = .ok (.invokestatic 192, 3) := by decide +kernel
theorem dX12_writesTo_9 : decode cX12_writesTo 9 = .ok (.ifCond .eq 17, 3) := by decide +kernel
theorem dX12_writesTo_26 : decode cX12_writesTo 26 = .ok (.iconst 0, 1) := by decide +kernel
theorem dX12_writesTo_27 : decode cX12_writesTo 27 = .ok (.ireturn, 1) := by decide +kernel
theorem dX12_writesTo_12 : decode cX12_writesTo 12 = .ok (.aload_n 0, 1) := by decide +kernel
theorem dX12_writesTo_13 : decode cX12_writesTo 13 = .ok (.getfield 17, 3) := by decide +kernel
theorem dX12_writesTo_16 : decode cX12_writesTo 16 = .ok (.iload_n 1, 1) := by decide +kernel
theorem dX12_writesTo_17 : decode cX12_writesTo 17 = .ok (.iaload, 1) := by decide +kernel
theorem dX12_writesTo_18 : decode cX12_writesTo 18 = .ok (.iload_n 2, 1) := by decide +kernel
theorem dX12_writesTo_19 : decode cX12_writesTo 19 = .ok (.if_icmp .ne 7, 3) := by decide +kernel
theorem dX12_writesTo_22 : decode cX12_writesTo 22 = .ok (.iconst 1, 1) := by decide +kernel
theorem dX12_writesTo_23 : decode cX12_writesTo 23 = .ok (.goto 4, 3) := by decide +kernel
set_option maxRecDepth 20000 in
theorem c_X12_writesTo (d : Nat) {b : Nat} {σ : MS} {x : Int} {g : Int} (hx : 0 ≤ x ∧ x < 2860) (hR : RG σ) (h_g : -2147483648 ≤ g ∧ g ≤ 2147483647) : Tm (d + 2) m_X12_writesTo 0 b σ [(0, .ref b), (1, .int (iI x)), (2, .int (iI g))] [] (fun ro σ2 => ∃ v : Int, ro = some (.int (iI v)) ∧ σ = σ2 ∧ ((v = 0 ∨ v = 1)) ∧ ((v = 1 ↔ (σ.2.1 3 x ≤ 5 ∨ σ.2.1 3 x = 10) ∧ σ.2.1 4 x = g))) := by
  refine tm_aload_n dX12_writesTo_0 rfl 0 rfl ?_
  refine tm_get (k := 3) (v := .ref (b + 1 + 1)) lay_12 dX12_writesTo_1 (by decide) fl12_13 rfl ?_
  refine tm_iload_n dX12_writesTo_4 rfl 1 rfl ?_
  refine tm_iald (z := x) (v := σ.2.1 3 x) dX12_writesTo_5 (show mT[1]? = some (3, 0, 2860) from rfl) (by omega) (by omega) (by decide) (rfl) ?_
  have g1 := RG.a hR 3 (x)
  refine tm_callS (M := m_X12_writesTo) (pc := 6) (ix := 192) (M' := m_X12_writes) (As := [.int (iI (σ.2.1 3 x))]) (rest := []) dX12_writesTo_6 ok_X12_writes stt_X12_writes ml12_192 np_X12_writes rfl (Nat.le_of_ble_eq_true rfl) (Nat.le_of_ble_eq_true rfl) rfl (c_X12_writes (d) (σ := σ) (x := σ.2.1 3 x) (by omega)) (fun r2 σ3 hp => ?_)
  obtain ⟨v4, rfl, rfl, f5, f6⟩ := hp
  show Tm _ _ 9 b σ [(0, .ref b), (1, .int (iI x)), (2, .int (iI g))] [.int (iI v4)] _
  refine tm_if_eq (tgt := 26) dX12_writesTo_9 (by decide) ⟨by omega, by omega⟩ (fun h7 => ?_) (fun h7 => ?_)
  · refine tm_iconst dX12_writesTo_26 ?_
    exact tm_zret (v := 0) rfl (by decide) dX12_writesTo_27 (⟨_, rfl, rfl, by omega, by omega⟩)
  · refine tm_aload_n dX12_writesTo_12 rfl 0 rfl ?_
    refine tm_get (k := 4) (v := .ref (b + 1 + 2)) lay_12 dX12_writesTo_13 (by decide) fl12_17 rfl ?_
    refine tm_iload_n dX12_writesTo_16 rfl 1 rfl ?_
    refine tm_iald (z := x) (v := σ.2.1 4 x) dX12_writesTo_17 (show mT[2]? = some (4, 0, 2860) from rfl) (by omega) (by omega) (by decide) (rfl) ?_
    have g8 := RG.a hR 4 (x)
    refine tm_iload_n dX12_writesTo_18 rfl 2 rfl ?_
    refine tm_icmp_ne (tgt := 26) dX12_writesTo_19 (by decide) ⟨by omega, by omega⟩ ⟨by omega, by omega⟩ (fun h9 => ?_) (fun h9 => ?_)
    · refine tm_iconst dX12_writesTo_26 ?_
      exact tm_zret (v := 0) rfl (by decide) dX12_writesTo_27 (⟨_, rfl, rfl, by omega, by omega⟩)
    · refine tm_iconst dX12_writesTo_22 ?_
      refine tm_goto (tgt := 27) dX12_writesTo_23 (by decide) ?_
      exact tm_zret (v := 1) rfl (by decide) dX12_writesTo_27 (⟨_, rfl, rfl, by omega, by omega⟩)
theorem ml12_196 : Cond.methodLink RX12 196 yX12_isFive ∈ pWW := pw9 (List.mem_of_getElem? (i := 59) rfl) rfl
theorem fl12_35 : Cond.fieldLink RX12 35 (TX12 11).1 (TX12 11).2.1 (TX12 11).2.2.1 ∈ pWW := pw7 (List.mem_of_getElem? (i := 18) rfl) rfl
theorem dX12_args_0 : decode cX12_args 0 = .ok (.aload_n 0, 1) := by decide +kernel
theorem dX12_args_1 : decode cX12_args 1 = .ok (.getfield 13, 3) := by decide +kernel
theorem dX12_args_4 : decode cX12_args 4 = .ok (.iload_n 1, 1) := by decide +kernel
theorem dX12_args_5 : decode cX12_args 5 = .ok (.iaload, 1) := by decide +kernel
theorem dX12_args_6 : decode cX12_args 6 = .ok (.istore_n 2, 1) := by decide +kernel
theorem dX12_args_7 : decode cX12_args 7 = .ok (.iload_n 2, 1) := by decide +kernel
theorem dX12_args_8 : decode cX12_args 8 = .ok (.bipush 10, 2) := by decide +kernel
theorem dX12_args_10 : decode cX12_args 10 = .ok (.if_icmp .ne 15, 3) := by decide +kernel
theorem dX12_args_25 : decode cX12_args 25 = .ok (.iload_n 2, 1) := by decide +kernel
theorem dX12_args_26 : decode cX12_args 26 = .ok (.bipush 12, 2) := by decide +kernel
theorem dX12_args_28 : decode cX12_args 28 = .ok (.if_icmp .ne 34, 3) := by decide +kernel
theorem dX12_args_62 : decode cX12_args 62 = .ok (.iload_n 2, 1) := by decide +kernel
theorem dX12_args_63 : decode cX12_args 63 = .ok (.invokestatic 196, 3) := by decide +kernel
theorem dX12_args_66 : decode cX12_args 66 = .ok (.ifCond .eq 7, 3) := by decide +kernel
theorem dX12_args_73 : decode cX12_args 73 = .ok (.iload_n 2, 1) := by decide +kernel
theorem dX12_args_74 : decode cX12_args 74 = .ok (.ifCond .eq 21, 3) := by decide +kernel
theorem dX12_args_95 : decode cX12_args 95 = .ok (.iconst 1, 1) := by decide +kernel
theorem dX12_args_96 : decode cX12_args 96 = .ok (.goto 4, 3) := by decide +kernel
theorem dX12_args_100 : decode cX12_args 100 = .ok (.ireturn, 1) := by decide +kernel
theorem dX12_args_77 : decode cX12_args 77 = .ok (.iload_n 2, 1) := by decide +kernel
theorem dX12_args_78 : decode cX12_args 78 = .ok (.bipush 6, 2) := by decide +kernel
theorem dX12_args_80 : decode cX12_args 80 = .ok (.if_icmp .eq 15, 3) := by decide +kernel
theorem dX12_args_83 : decode cX12_args 83 = .ok (.iload_n 2, 1) := by decide +kernel
theorem dX12_args_84 : decode cX12_args 84 = .ok (.bipush 7, 2) := by decide +kernel
theorem dX12_args_86 : decode cX12_args 86 = .ok (.if_icmp .eq 9, 3) := by decide +kernel
theorem dX12_args_89 : decode cX12_args 89 = .ok (.iload_n 2, 1) := by decide +kernel
theorem dX12_args_90 : decode cX12_args 90 = .ok (.bipush 9, 2) := by decide +kernel
theorem dX12_args_92 : decode cX12_args 92 = .ok (.if_icmp .ne 7, 3) := by decide +kernel
theorem dX12_args_99 : decode cX12_args 99 = .ok (.iconst 0, 1) := by decide +kernel
theorem dX12_args_69 : decode cX12_args 69 = .ok (.iconst 2, 1) := by decide +kernel
theorem dX12_args_70 : decode cX12_args 70 = .ok (.goto 30, 3) := by decide +kernel
theorem dX12_args_31 : decode cX12_args 31 = .ok (.aload_n 0, 1) := by decide +kernel
theorem dX12_args_32 : decode cX12_args 32 = .ok (.getfield 23, 3) := by decide +kernel
theorem dX12_args_35 : decode cX12_args 35 = .ok (.iload_n 1, 1) := by decide +kernel
theorem dX12_args_36 : decode cX12_args 36 = .ok (.iaload, 1) := by decide +kernel
theorem dX12_args_37 : decode cX12_args 37 = .ok (.bipush 10, 2) := by decide +kernel
theorem dX12_args_39 : decode cX12_args 39 = .ok (.if_icmp .lt 7, 3) := by decide +kernel
theorem dX12_args_46 : decode cX12_args 46 = .ok (.aload_n 0, 1) := by decide +kernel
theorem dX12_args_47 : decode cX12_args 47 = .ok (.getfield 23, 3) := by decide +kernel
theorem dX12_args_50 : decode cX12_args 50 = .ok (.iload_n 1, 1) := by decide +kernel
theorem dX12_args_51 : decode cX12_args 51 = .ok (.iaload, 1) := by decide +kernel
theorem dX12_args_52 : decode cX12_args 52 = .ok (.iconst 2, 1) := by decide +kernel
theorem dX12_args_53 : decode cX12_args 53 = .ok (.if_icmp .le 7, 3) := by decide +kernel
theorem dX12_args_60 : decode cX12_args 60 = .ok (.iconst 1, 1) := by decide +kernel
theorem dX12_args_61 : decode cX12_args 61 = .ok (.ireturn, 1) := by decide +kernel
theorem dX12_args_56 : decode cX12_args 56 = .ok (.iconst 2, 1) := by decide +kernel
theorem dX12_args_57 : decode cX12_args 57 = .ok (.goto 4, 3) := by decide +kernel
theorem dX12_args_42 : decode cX12_args 42 = .ok (.iconst 0, 1) := by decide +kernel
theorem dX12_args_43 : decode cX12_args 43 = .ok (.goto 18, 3) := by decide +kernel
theorem dX12_args_13 : decode cX12_args 13 = .ok (.aload_n 0, 1) := by decide +kernel
theorem dX12_args_14 : decode cX12_args 14 = .ok (.getfield 35, 3) := by decide +kernel
theorem dX12_args_17 : decode cX12_args 17 = .ok (.aload_n 0, 1) := by decide +kernel
theorem dX12_args_18 : decode cX12_args 18 = .ok (.getfield 20, 3) := by decide +kernel
theorem dX12_args_21 : decode cX12_args 21 = .ok (.iload_n 1, 1) := by decide +kernel
theorem dX12_args_22 : decode cX12_args 22 = .ok (.iaload, 1) := by decide +kernel
theorem dX12_args_23 : decode cX12_args 23 = .ok (.iaload, 1) := by decide +kernel
theorem dX12_args_24 : decode cX12_args 24 = .ok (.ireturn, 1) := by decide +kernel
set_option maxRecDepth 20000 in
theorem c_X12_args (d : Nat) {b : Nat} {σ : MS} {x : Int} (hx : 0 ≤ x ∧ x < 2860) (hR : RG σ) (hof : σ.2.1 3 x = 10 → 0 ≤ σ.2.1 5 x ∧ σ.2.1 5 x < 6) (hpar : PAR σ) : Tm (d + 3) m_X12_args 0 b σ [(0, .ref b), (1, .int (iI x))] [] (fun ro σ2 => ∃ v : Int, ro = some (.int (iI v)) ∧ σ = σ2 ∧ (v = nArgs σ x) ∧ (0 ≤ v ∧ v ≤ 4)) := by
  refine tm_aload_n dX12_args_0 rfl 0 rfl ?_
  refine tm_get (k := 3) (v := .ref (b + 1 + 1)) lay_12 dX12_args_1 (by decide) fl12_13 rfl ?_
  refine tm_iload_n dX12_args_4 rfl 1 rfl ?_
  refine tm_iald (z := x) (v := σ.2.1 3 x) dX12_args_5 (show mT[1]? = some (3, 0, 2860) from rfl) (by omega) (by omega) (by decide) (rfl) ?_
  have g1 := RG.a hR 3 (x)
  refine tm_istore_n (L' := [(2, .int (iI (σ.2.1 3 x))), (0, .ref b), (1, .int (iI x))]) dX12_args_6 rfl (by decide) rfl ?_
  refine tm_iload_n dX12_args_7 rfl 0 rfl ?_
  refine tm_bipush dX12_args_8 (by decide) ?_
  refine tm_icmp_ne (tgt := 25) dX12_args_10 (by decide) ⟨by omega, by omega⟩ ⟨by decide, by decide⟩ (fun h2 => ?_) (fun h2 => ?_)
  · refine tm_iload_n dX12_args_25 rfl 0 rfl ?_
    refine tm_bipush dX12_args_26 (by decide) ?_
    refine tm_icmp_ne (tgt := 62) dX12_args_28 (by decide) ⟨by omega, by omega⟩ ⟨by decide, by decide⟩ (fun h3 => ?_) (fun h3 => ?_)
    · refine tm_iload_n dX12_args_62 rfl 0 rfl ?_
      refine tm_callS (M := m_X12_args) (pc := 63) (ix := 196) (M' := m_X12_isFive) (As := [.int (iI (σ.2.1 3 x))]) (rest := []) dX12_args_63 ok_X12_isFive stt_X12_isFive ml12_196 np_X12_isFive rfl (Nat.le_of_ble_eq_true rfl) (Nat.le_of_ble_eq_true rfl) rfl (c_X12_isFive (d) (σ := σ) (x := σ.2.1 3 x) (by omega)) (fun r4 σ5 hp => ?_)
      obtain ⟨v6, rfl, rfl, f7, f8⟩ := hp
      show Tm _ _ 66 b σ [(2, .int (iI (σ.2.1 3 x))), (0, .ref b), (1, .int (iI x))] [.int (iI v6)] _
      refine tm_if_eq (tgt := 73) dX12_args_66 (by decide) ⟨by omega, by omega⟩ (fun h9 => ?_) (fun h9 => ?_)
      · refine tm_iload_n dX12_args_73 rfl 0 rfl ?_
        refine tm_if_eq (tgt := 95) dX12_args_74 (by decide) ⟨by omega, by omega⟩ (fun h10 => ?_) (fun h10 => ?_)
        · refine tm_iconst dX12_args_95 ?_
          refine tm_goto (tgt := 100) dX12_args_96 (by decide) ?_
          exact tm_iret rfl dX12_args_100 (⟨_, rfl, rfl, by unfold nArgs; (repeat' split) <;> omega, by omega⟩)
        · refine tm_iload_n dX12_args_77 rfl 0 rfl ?_
          refine tm_bipush dX12_args_78 (by decide) ?_
          refine tm_icmp_eq (tgt := 95) dX12_args_80 (by decide) ⟨by omega, by omega⟩ ⟨by decide, by decide⟩ (fun h11 => ?_) (fun h11 => ?_)
          · refine tm_iconst dX12_args_95 ?_
            refine tm_goto (tgt := 100) dX12_args_96 (by decide) ?_
            exact tm_iret rfl dX12_args_100 (⟨_, rfl, rfl, by unfold nArgs; (repeat' split) <;> omega, by omega⟩)
          · refine tm_iload_n dX12_args_83 rfl 0 rfl ?_
            refine tm_bipush dX12_args_84 (by decide) ?_
            refine tm_icmp_eq (tgt := 95) dX12_args_86 (by decide) ⟨by omega, by omega⟩ ⟨by decide, by decide⟩ (fun h12 => ?_) (fun h12 => ?_)
            · refine tm_iconst dX12_args_95 ?_
              refine tm_goto (tgt := 100) dX12_args_96 (by decide) ?_
              exact tm_iret rfl dX12_args_100 (⟨_, rfl, rfl, by unfold nArgs; (repeat' split) <;> omega, by omega⟩)
            · refine tm_iload_n dX12_args_89 rfl 0 rfl ?_
              refine tm_bipush dX12_args_90 (by decide) ?_
              refine tm_icmp_ne (tgt := 99) dX12_args_92 (by decide) ⟨by omega, by omega⟩ ⟨by decide, by decide⟩ (fun h13 => ?_) (fun h13 => ?_)
              · refine tm_iconst dX12_args_99 ?_
                exact tm_iret rfl dX12_args_100 (⟨_, rfl, rfl, by unfold nArgs; (repeat' split) <;> omega, by omega⟩)
              · refine tm_iconst dX12_args_95 ?_
                refine tm_goto (tgt := 100) dX12_args_96 (by decide) ?_
                exact tm_iret rfl dX12_args_100 (⟨_, rfl, rfl, by unfold nArgs; (repeat' split) <;> omega, by omega⟩)
      · refine tm_iconst dX12_args_69 ?_
        refine tm_goto (tgt := 100) dX12_args_70 (by decide) ?_
        exact tm_iret rfl dX12_args_100 (⟨_, rfl, rfl, by unfold nArgs; (repeat' split) <;> omega, by omega⟩)
    · refine tm_aload_n dX12_args_31 rfl 1 rfl ?_
      refine tm_get (k := 6) (v := .ref (b + 1 + 4)) lay_12 dX12_args_32 (by decide) fl12_23 rfl ?_
      refine tm_iload_n dX12_args_35 rfl 2 rfl ?_
      refine tm_iald (z := x) (v := σ.2.1 6 x) dX12_args_36 (show mT[4]? = some (6, 0, 2860) from rfl) (by omega) (by omega) (by decide) (rfl) ?_
      have g14 := RG.a hR 6 (x)
      refine tm_bipush dX12_args_37 (by decide) ?_
      refine tm_icmp_lt (tgt := 46) dX12_args_39 (by decide) ⟨by omega, by omega⟩ ⟨by decide, by decide⟩ (fun h15 => ?_) (fun h15 => ?_)
      · refine tm_aload_n dX12_args_46 rfl 1 rfl ?_
        refine tm_get (k := 6) (v := .ref (b + 1 + 4)) lay_12 dX12_args_47 (by decide) fl12_23 rfl ?_
        refine tm_iload_n dX12_args_50 rfl 2 rfl ?_
        refine tm_iald (z := x) (v := σ.2.1 6 x) dX12_args_51 (show mT[4]? = some (6, 0, 2860) from rfl) (by omega) (by omega) (by decide) (rfl) ?_
        have g16 := RG.a hR 6 (x)
        refine tm_iconst dX12_args_52 ?_
        refine tm_icmp_le (tgt := 60) dX12_args_53 (by decide) ⟨by omega, by omega⟩ ⟨by decide, by decide⟩ (fun h17 => ?_) (fun h17 => ?_)
        · refine tm_iconst dX12_args_60 ?_
          exact tm_iret rfl dX12_args_61 (⟨_, rfl, rfl, by unfold nArgs; (repeat' split) <;> omega, by omega⟩)
        · refine tm_iconst dX12_args_56 ?_
          refine tm_goto (tgt := 61) dX12_args_57 (by decide) ?_
          exact tm_iret rfl dX12_args_61 (⟨_, rfl, rfl, by unfold nArgs; (repeat' split) <;> omega, by omega⟩)
      · refine tm_iconst dX12_args_42 ?_
        refine tm_goto (tgt := 61) dX12_args_43 (by decide) ?_
        exact tm_iret rfl dX12_args_61 (⟨_, rfl, rfl, by unfold nArgs; (repeat' split) <;> omega, by omega⟩)
  · refine tm_aload_n dX12_args_13 rfl 1 rfl ?_
    refine tm_get (k := 11) (v := .ref (b + 1 + 8)) lay_12 dX12_args_14 (by decide) fl12_35 rfl ?_
    refine tm_aload_n dX12_args_17 rfl 1 rfl ?_
    refine tm_get (k := 5) (v := .ref (b + 1 + 3)) lay_12 dX12_args_18 (by decide) fl12_20 rfl ?_
    refine tm_iload_n dX12_args_21 rfl 2 rfl ?_
    refine tm_iald (z := x) (v := σ.2.1 5 x) dX12_args_22 (show mT[3]? = some (5, 0, 2860) from rfl) (by omega) (by omega) (by decide) (rfl) ?_
    have g18 := RG.a hR 5 (x)
    refine tm_iald (z := σ.2.1 5 x) (v := σ.2.1 11 (σ.2.1 5 x)) dX12_args_23 (show mT[8]? = some (11, 0, 6) from rfl) (by omega) (by omega) (by decide) (rfl) ?_
    have g19 := RG.a hR 11 (σ.2.1 5 x)
    have := hpar (σ.2.1 5 x) (by omega) (by omega)
    exact tm_iret rfl dX12_args_24 (⟨_, rfl, rfl, by unfold nArgs; (repeat' split) <;> omega, by omega⟩)
end
section
def LEAN (σ : MS) (x g : Int) : Prop := ∃ i, 0 ≤ i ∧ i < nArgs σ x ∧ σ.2.1 7 (4 * x + i) = 2 ∧ σ.2.1 8 (4 * x + i) = g
def OKI (σ : MS) (F x : Int) : Prop :=
  (0 ≤ σ.2.1 3 x ∧ σ.2.1 3 x ≤ 15) ∧ ((σ.2.1 3 x ≤ 5 ∨ σ.2.1 3 x = 10) → 0 ≤ σ.2.1 4 x ∧ σ.2.1 4 x < 192) ∧ ((σ.2.1 3 x = 8 ∨ σ.2.1 3 x = 9 ∨ σ.2.1 3 x = 13) → 0 ≤ σ.2.1 4 x ∧ σ.2.1 4 x < 4096) ∧ ((σ.2.1 3 x = 14 ∨ σ.2.1 3 x = 15) → 0 ≤ σ.2.1 4 x ∧ σ.2.1 4 x < F) ∧ (σ.2.1 3 x = 12 → 0 ≤ σ.2.1 4 x ∧ σ.2.1 4 x < 12) ∧
  ((σ.2.1 3 x = 11 ∨ σ.2.1 3 x = 12) → 0 ≤ σ.2.1 5 x ∧ σ.2.1 5 x < F) ∧ (σ.2.1 3 x = 10 → 0 ≤ σ.2.1 5 x ∧ σ.2.1 5 x < 6) ∧ (∀ i, 0 ≤ i → i < 4 → (0 ≤ σ.2.1 7 (4 * x + i) ∧ σ.2.1 7 (4 * x + i) ≤ 2) ∧ (σ.2.1 7 (4 * x + i) = 2 → (0 ≤ σ.2.1 8 (4 * x + i) ∧ σ.2.1 8 (4 * x + i) < 192) ∧ i < nArgs σ x)) ∧ (σ.2.1 3 x = 12 → σ.2.1 6 x = 2 → σ.2.1 7 (4 * x + 0) = 2)
def ITM (σ : MS) : Prop := ∀ r, 0 ≤ r → r < 13 → 0 ≤ σ.2.1 9 r ∧ σ.2.1 9 r ≤ 220
def OKS (σ : MS) (F r : Int) : Prop := ∀ k, 0 ≤ k → k < σ.2.1 9 r → OKI σ F (220 * r + k)
def OKF (σ : MS) (r : Int) : Prop := (1 ≤ σ.2.1 14 r ∧ σ.2.1 14 r ≤ 12) ∧ ∀ f, 0 ≤ f → f < σ.2.1 14 r → (0 ≤ σ.2.1 15 (12 * r + f) ∧ σ.2.1 15 (12 * r + f) < 6) ∧ ∀ n, 0 ≤ n → n < σ.2.1 12 (σ.2.1 15 (12 * r + f)) → 0 ≤ σ.2.1 18 (144 * r + 12 * f + n) ∧ σ.2.1 18 (144 * r + 12 * f + n) < 192
def NAM (σ : MS) : Prop := ∀ r, 0 ≤ r → r < 6 → 0 ≤ σ.2.1 12 r ∧ σ.2.1 12 r ≤ 12

theorem ml12_199 : Cond.methodLink RX12 199 yX12_args ∈ pWW := pw9 (List.mem_of_getElem? (i := 55) rfl) rfl
theorem dX12_leansOn_2 : decode cX12_leansOn 2 = .ok (.iload_n 3, 1) := by decide +kernel
theorem dX12_leansOn_3 : decode cX12_leansOn 3 = .ok (.aload_n 0, 1) := by decide +kernel
theorem dX12_leansOn_4 : decode cX12_leansOn 4 = .ok (.iload_n 1, 1) := by decide +kernel
theorem dX12_leansOn_5 : decode cX12_leansOn 5 = .ok (.invokevirtual 199, 3) := by decide +kernel
theorem dX12_leansOn_8 : decode cX12_leansOn 8 = .ok (.if_icmp .ge 39, 3) := by decide +kernel
theorem dX12_leansOn_11 : decode cX12_leansOn 11 = .ok (.aload_n 0, 1) := by decide +kernel
theorem dX12_leansOn_12 : decode cX12_leansOn 12 = .ok (.getfield 26, 3) := by decide +kernel
theorem dX12_leansOn_15 : decode cX12_leansOn 15 = .ok (.iconst 4, 1) := by decide +kernel
theorem dX12_leansOn_16 : decode cX12_leansOn 16 = .ok (.iload_n 1, 1) := by decide +kernel
theorem dX12_leansOn_17 : decode cX12_leansOn 17 = .ok (.imul, 1) := by decide +kernel
theorem dX12_leansOn_18 : decode cX12_leansOn 18 = .ok (.iload_n 3, 1) := by decide +kernel
theorem dX12_leansOn_19 : decode cX12_leansOn 19 = .ok (.iadd, 1) := by decide +kernel
theorem dX12_leansOn_20 : decode cX12_leansOn 20 = .ok (.iaload, 1) := by decide +kernel
theorem dX12_leansOn_21 : decode cX12_leansOn 21 = .ok (.iconst 2, 1) := by decide +kernel
theorem dX12_leansOn_22 : decode cX12_leansOn 22 = .ok (.if_icmp .ne 19, 3) := by decide +kernel
theorem dX12_leansOn_41 : decode cX12_leansOn 41 = .ok (.iinc 3 1, 3) := by decide +kernel
theorem dX12_leansOn_44 : decode cX12_leansOn 44 = .ok (.goto (-42), 3) := by decide +kernel
theorem dX12_leansOn_25 : decode cX12_leansOn 25 = .ok (.aload_n 0, 1) := by decide +kernel
theorem dX12_leansOn_26 : decode cX12_leansOn 26 = .ok (.getfield 29, 3) := by decide +kernel
theorem dX12_leansOn_29 : decode cX12_leansOn 29 = .ok (.iconst 4, 1) := by decide +kernel
theorem dX12_leansOn_30 : decode cX12_leansOn 30 = .ok (.iload_n 1, 1) := by decide +kernel
theorem dX12_leansOn_31 : decode cX12_leansOn 31 = .ok (.imul, 1) := by decide +kernel
theorem dX12_leansOn_32 : decode cX12_leansOn 32 = .ok (.iload_n 3, 1) := by decide +kernel
theorem dX12_leansOn_33 : decode cX12_leansOn 33 = .ok (.iadd, 1) := by decide +kernel
theorem dX12_leansOn_34 : decode cX12_leansOn 34 = .ok (.iaload, 1) := by decide +kernel
theorem dX12_leansOn_35 : decode cX12_leansOn 35 = .ok (.iload_n 2, 1) := by decide +kernel
theorem dX12_leansOn_36 : decode cX12_leansOn 36 = .ok (.if_icmp .ne 5, 3) := by decide +kernel
theorem dX12_leansOn_39 : decode cX12_leansOn 39 = .ok (.iconst 1, 1) := by decide +kernel
theorem dX12_leansOn_40 : decode cX12_leansOn 40 = .ok (.ireturn, 1) := by decide +kernel
set_option maxRecDepth 20000 in
theorem l_leansOn (d : Nat) {b : Nat} {σ : MS} {x : Int} {g : Int} {post : Option Value → MS → Prop} (hx : 0 ≤ x ∧ x < 2860) (hR : RG σ) (hof : σ.2.1 3 x = 10 → 0 ≤ σ.2.1 5 x ∧ σ.2.1 5 x < 6) (hpar : PAR σ) (h_g : -2147483648 ≤ g ∧ g ≤ 2147483647) (hx_47 : ∀ (i : Int) , (∀ j, 0 ≤ j → j < nArgs σ x → ¬ (σ.2.1 7 (4 * x + j) = 2 ∧ σ.2.1 8 (4 * x + j) = g)) → Tm (d + 4) m_X12_leansOn 47 b σ [(3, .int (iI i)), (0, .ref b), (1, .int (iI x)), (2, .int (iI g))] [] post) (hr1 : ∀ i, 0 ≤ i → i < nArgs σ x → σ.2.1 7 (4 * x + i) = 2 → σ.2.1 8 (4 * x + i) = g → post (some (.int (iI 1))) σ) : ∀ (n : Nat) (i : Int) , (0 ≤ i ∧ i ≤ 4) → (∀ j, 0 ≤ j → j < i → ¬ (σ.2.1 7 (4 * x + j) = 2 ∧ σ.2.1 8 (4 * x + j) = g)) → (4 - i).toNat = n → Tm (d + 4) m_X12_leansOn 2 b σ [(3, .int (iI i)), (0, .ref b), (1, .int (iI x)), (2, .int (iI g))] [] post := by
  intro n
  induction n using Nat.strongRecOn with
  | _ n ih =>
    intro i h0 hj hm
    refine tm_iload_n dX12_leansOn_2 rfl 0 rfl ?_
    refine tm_aload_n dX12_leansOn_3 rfl 1 rfl ?_
    refine tm_iload_n dX12_leansOn_4 rfl 2 rfl ?_
    refine tm_callV (M := m_X12_leansOn) (pc := 5) (ix := 199) (M' := m_X12_args) (As := [.int (iI x)]) (rest := [.int (iI i)]) dX12_leansOn_5 ok_X12_args im_X12_args se_X12_args ml12_199 np_X12_args rfl rfl (Nat.le_of_ble_eq_true rfl) (Nat.le_of_ble_eq_true rfl) rfl (c_X12_args (d) (σ := σ) (x := x) hx hR hof hpar) (fun r1 σ2 hp => ?_)
    obtain ⟨v3, rfl, rfl, f4, f5⟩ := hp
    show Tm _ _ 8 b σ [(3, .int (iI i)), (0, .ref b), (1, .int (iI x)), (2, .int (iI g))] [.int (iI v3), .int (iI i)] _
    refine tm_icmp_ge (tgt := 47) dX12_leansOn_8 (by decide) ⟨by omega, by omega⟩ ⟨by omega, by omega⟩ (fun h6 => ?_) (fun h6 => ?_)
    · exact tm_sub [0, 1, 2, 3] rfl (hx_47 (i) (fun j a b => hj j a (by omega)))
    · refine tm_aload_n dX12_leansOn_11 rfl 1 rfl ?_
      refine tm_get (k := 7) (v := .ref (b + 1 + 5)) lay_12 dX12_leansOn_12 (by decide) fl12_26 rfl ?_
      refine tm_iconst dX12_leansOn_15 ?_
      refine tm_iload_n dX12_leansOn_16 rfl 2 rfl ?_
      refine tm_imul dX12_leansOn_17 ?_
      refine tm_iload_n dX12_leansOn_18 rfl 0 rfl ?_
      refine tm_iadd dX12_leansOn_19 ?_
      refine tm_iald (z := (4 * x) + i) (v := σ.2.1 7 ((4 * x) + i)) dX12_leansOn_20 (show mT[5]? = some (7, 0, 11440) from rfl) (by omega) (by omega) (by decide) (rfl) ?_
      have g7 := RG.a hR 7 ((4 * x) + i)
      refine tm_iconst dX12_leansOn_21 ?_
      refine tm_icmp_ne (tgt := 41) dX12_leansOn_22 (by decide) ⟨by omega, by omega⟩ ⟨by decide, by decide⟩ (fun h8 => ?_) (fun h8 => ?_)
      · refine tm_iinc (q0 := 0) (L' := [(3, .int (iI (i + 1))), (0, .ref b), (1, .int (iI x)), (2, .int (iI g))]) dX12_leansOn_41 rfl (by decide) rfl ?_
        refine tm_goto (tgt := 2) dX12_leansOn_44 (by decide) ?_
        exact tm_sub [0, 1, 2, 3] rfl (ih _ (by omega) (i + 1) (by omega) (fun j a b => by
          by_cases e : j = i
          · subst e; omega
          · exact hj j a (by omega)) rfl)
      · refine tm_aload_n dX12_leansOn_25 rfl 1 rfl ?_
        refine tm_get (k := 8) (v := .ref (b + 1 + 6)) lay_12 dX12_leansOn_26 (by decide) fl12_29 rfl ?_
        refine tm_iconst dX12_leansOn_29 ?_
        refine tm_iload_n dX12_leansOn_30 rfl 2 rfl ?_
        refine tm_imul dX12_leansOn_31 ?_
        refine tm_iload_n dX12_leansOn_32 rfl 0 rfl ?_
        refine tm_iadd dX12_leansOn_33 ?_
        refine tm_iald (z := (4 * x) + i) (v := σ.2.1 8 ((4 * x) + i)) dX12_leansOn_34 (show mT[6]? = some (8, 0, 11440) from rfl) (by omega) (by omega) (by decide) (rfl) ?_
        have g9 := RG.a hR 8 ((4 * x) + i)
        refine tm_iload_n dX12_leansOn_35 rfl 3 rfl ?_
        refine tm_icmp_ne (tgt := 41) dX12_leansOn_36 (by decide) ⟨by omega, by omega⟩ ⟨by omega, by omega⟩ (fun h10 => ?_) (fun h10 => ?_)
        · refine tm_iinc (q0 := 0) (L' := [(3, .int (iI (i + 1))), (0, .ref b), (1, .int (iI x)), (2, .int (iI g))]) dX12_leansOn_41 rfl (by decide) rfl ?_
          refine tm_goto (tgt := 2) dX12_leansOn_44 (by decide) ?_
          exact tm_sub [0, 1, 2, 3] rfl (ih _ (by omega) (i + 1) (by omega) (fun j a b => by
          by_cases e : j = i
          · subst e; omega
          · exact hj j a (by omega)) rfl)
        · refine tm_iconst dX12_leansOn_39 ?_
          exact tm_zret (v := 1) rfl (by decide) dX12_leansOn_40 (hr1 i (by omega) (by omega) (by assumption) (by assumption))
theorem dX12_leansOn_0 : decode cX12_leansOn 0 = .ok (.iconst 0, 1) := by decide +kernel
theorem dX12_leansOn_1 : decode cX12_leansOn 1 = .ok (.istore_n 3, 1) := by decide +kernel
theorem dX12_leansOn_47 : decode cX12_leansOn 47 = .ok (.iconst 0, 1) := by decide +kernel
theorem dX12_leansOn_48 : decode cX12_leansOn 48 = .ok (.ireturn, 1) := by decide +kernel
set_option maxRecDepth 20000 in
theorem c_X12_leansOn (d : Nat) {b : Nat} {σ : MS} {x : Int} {g : Int} (hx : 0 ≤ x ∧ x < 2860) (hR : RG σ) (hof : σ.2.1 3 x = 10 → 0 ≤ σ.2.1 5 x ∧ σ.2.1 5 x < 6) (hpar : PAR σ) (h_g : -2147483648 ≤ g ∧ g ≤ 2147483647) : Tm (d + 4) m_X12_leansOn 0 b σ [(0, .ref b), (1, .int (iI x)), (2, .int (iI g))] [] (fun ro σ2 => ∃ v : Int, ro = some (.int (iI v)) ∧ σ = σ2 ∧ ((v = 0 ∨ v = 1)) ∧ ((v = 1 ↔ LEAN σ x g))) := by
  refine tm_iconst dX12_leansOn_0 ?_
  refine tm_istore_n (L' := [(3, .int (iI 0)), (0, .ref b), (1, .int (iI x)), (2, .int (iI g))]) dX12_leansOn_1 rfl (by decide) rfl ?_
  refine tm_sub [0, 1, 2, 3] rfl (l_leansOn (d) (σ := σ) (x := x) (g := g) hx hR hof hpar h_g (fun i5 f4 => ?_) (fun i a b c e => ⟨_, rfl, rfl, Or.inr rfl, fun _ => ⟨i, a, b, c, e⟩, fun _ => rfl⟩) _ (0) (by omega) (fun j a b => by omega) rfl)
  show Tm _ _ 47 b σ [(3, .int (iI i5)), (0, .ref b), (1, .int (iI x)), (2, .int (iI g))] [] _
  refine tm_iconst dX12_leansOn_47 ?_
  exact tm_zret (v := 0) rfl (by decide) dX12_leansOn_48 (⟨_, rfl, rfl, Or.inl rfl, fun h => absurd h (by decide), fun ⟨i, a, b, c, e⟩ => absurd ⟨c, e⟩ (f4 i a b)⟩)
theorem fl12_32 : Cond.fieldLink RX12 32 (TX12 9).1 (TX12 9).2.1 (TX12 9).2.2.1 ∈ pWW := pw7 (List.mem_of_getElem? (i := 16) rfl) rfl
theorem ml12_203 : Cond.methodLink RX12 203 yX12_at ∈ pWW := pw8 (List.mem_of_getElem? (i := 209) rfl) rfl
theorem ml12_401 : Cond.methodLink RX12 401 yX12_isAct ∈ pWW := pw9 (List.mem_of_getElem? (i := 45) rfl) rfl
theorem dX12_acts_4 : decode cX12_acts 4 = .ok (.iload_n 3, 1) := by decide +kernel
theorem dX12_acts_5 : decode cX12_acts 5 = .ok (.aload_n 0, 1) := by decide +kernel
theorem dX12_acts_6 : decode cX12_acts 6 = .ok (.getfield 32, 3) := by decide +kernel
theorem dX12_acts_9 : decode cX12_acts 9 = .ok (.iload_n 1, 1) := by decide +kernel
theorem dX12_acts_10 : decode cX12_acts 10 = .ok (.iaload, 1) := by decide +kernel
theorem dX12_acts_11 : decode cX12_acts 11 = .ok (.if_icmp .ge 34, 3) := by decide +kernel
theorem dX12_acts_14 : decode cX12_acts 14 = .ok (.iload_n 2, 1) := by decide +kernel
theorem dX12_acts_15 : decode cX12_acts 15 = .ok (.aload_n 0, 1) := by decide +kernel
theorem dX12_acts_16 : decode cX12_acts 16 = .ok (.getfield 13, 3) := by decide +kernel
theorem dX12_acts_19 : decode cX12_acts 19 = .ok (.aload_n 0, 1) := by decide +kernel
theorem dX12_acts_20 : decode cX12_acts 20 = .ok (.iload_n 1, 1) := by decide +kernel
theorem dX12_acts_21 : decode cX12_acts 21 = .ok (.iload_n 3, 1) := by decide +kernel
theorem dX12_acts_22 : decode cX12_acts 22 = .ok (.invokevirtual 203, 3) := by decide +kernel
theorem dX12_acts_25 : decode cX12_acts 25 = .ok (.iaload, 1) := by decide +kernel
theorem dX12_acts_26 : decode cX12_acts 26 = .ok (.invokestatic 401, 3) := by decide +kernel
theorem dX12_acts_29 : decode cX12_acts 29 = .ok (.ifCond .eq 7, 3) := by decide +kernel
theorem dX12_acts_36 : decode cX12_acts 36 = .ok (.iconst 0, 1) := by decide +kernel
theorem dX12_acts_37 : decode cX12_acts 37 = .ok (.iadd, 1) := by decide +kernel
theorem dX12_acts_38 : decode cX12_acts 38 = .ok (.istore_n 2, 1) := by decide +kernel
theorem dX12_acts_39 : decode cX12_acts 39 = .ok (.iinc 3 1, 3) := by decide +kernel
theorem dX12_acts_42 : decode cX12_acts 42 = .ok (.goto (-38), 3) := by decide +kernel
theorem dX12_acts_32 : decode cX12_acts 32 = .ok (.iconst 1, 1) := by decide +kernel
theorem dX12_acts_33 : decode cX12_acts 33 = .ok (.goto 4, 3) := by decide +kernel
set_option maxRecDepth 20000 in
theorem l_acts (d : Nat) {b : Nat} {σ : MS} {r : Int} {post : Option Value → MS → Prop} (hr : 0 ≤ r ∧ r < 12) (hR : RG σ) (hit : ITM σ) (hx_45 : ∀ (n1 : Int) (k : Int) , (0 ≤ n1 ∧ n1 ≤ 220) → Tm (d + 3) m_X12_acts 45 b σ [(3, .int (iI k)), (2, .int (iI n1)), (0, .ref b), (1, .int (iI r))] [] post) : ∀ (n : Nat) (n1 : Int) (k : Int) , (0 ≤ n1 ∧ n1 ≤ k ∧ k ≤ 220) → (220 - k).toNat = n → Tm (d + 3) m_X12_acts 4 b σ [(3, .int (iI k)), (2, .int (iI n1)), (0, .ref b), (1, .int (iI r))] [] post := by
  intro n
  induction n using Nat.strongRecOn with
  | _ n ih =>
    intro n1 k h0 hm
    refine tm_iload_n dX12_acts_4 rfl 0 rfl ?_
    refine tm_aload_n dX12_acts_5 rfl 2 rfl ?_
    refine tm_get (k := 9) (v := .ref (b + 1 + 7)) lay_12 dX12_acts_6 (by decide) fl12_32 rfl ?_
    refine tm_iload_n dX12_acts_9 rfl 3 rfl ?_
    refine tm_iald (z := r) (v := σ.2.1 9 r) dX12_acts_10 (show mT[7]? = some (9, 0, 13) from rfl) (by omega) (by omega) (by decide) (rfl) ?_
    have g1 := RG.a hR 9 (r)
    have := hit (r) (by omega) (by omega)
    refine tm_icmp_ge (tgt := 45) dX12_acts_11 (by decide) ⟨by omega, by omega⟩ ⟨by omega, by omega⟩ (fun h2 => ?_) (fun h2 => ?_)
    · exact tm_sub [0, 1, 2, 3] rfl (hx_45 (n1) (k) (by omega))
    · refine tm_iload_n dX12_acts_14 rfl 1 rfl ?_
      refine tm_aload_n dX12_acts_15 rfl 2 rfl ?_
      refine tm_get (k := 3) (v := .ref (b + 1 + 1)) lay_12 dX12_acts_16 (by decide) fl12_13 rfl ?_
      refine tm_aload_n dX12_acts_19 rfl 2 rfl ?_
      refine tm_iload_n dX12_acts_20 rfl 3 rfl ?_
      refine tm_iload_n dX12_acts_21 rfl 0 rfl ?_
      refine tm_callV (M := m_X12_acts) (pc := 22) (ix := 203) (M' := m_X12_at) (As := [.int (iI r), .int (iI k)]) (rest := [.ref (b + 1 + 1), .int (iI n1)]) dX12_acts_22 ok_X12_at im_X12_at se_X12_at ml12_203 np_X12_at rfl rfl (Nat.le_of_ble_eq_true rfl) (Nat.le_of_ble_eq_true rfl) rfl (c_X12_at (d + 1) (σ := σ) (x := r) (k := k) ) (fun r3 σ4 hp => ?_)
      obtain ⟨v5, rfl, rfl, f6⟩ := hp
      subst f6
      show Tm _ _ 25 b σ [(3, .int (iI k)), (2, .int (iI n1)), (0, .ref b), (1, .int (iI r))] [.int (iI (220 * r + k)), .ref (b + 1 + 1), .int (iI n1)] _
      refine tm_iald (z := 220 * r + k) (v := σ.2.1 3 (220 * r + k)) dX12_acts_25 (show mT[1]? = some (3, 0, 2860) from rfl) (by omega) (by omega) (by decide) (rfl) ?_
      have g7 := RG.a hR 3 (220 * r + k)
      refine tm_callS (M := m_X12_acts) (pc := 26) (ix := 401) (M' := m_X12_isAct) (As := [.int (iI (σ.2.1 3 (220 * r + k)))]) (rest := [.int (iI n1)]) dX12_acts_26 ok_X12_isAct stt_X12_isAct ml12_401 np_X12_isAct rfl (Nat.le_of_ble_eq_true rfl) (Nat.le_of_ble_eq_true rfl) rfl (c_X12_isAct (d + 1) (σ := σ) (x := σ.2.1 3 (220 * r + k)) (by omega)) (fun r8 σ9 hp => ?_)
      obtain ⟨v10, rfl, rfl, f11, f12⟩ := hp
      show Tm _ _ 29 b σ [(3, .int (iI k)), (2, .int (iI n1)), (0, .ref b), (1, .int (iI r))] [.int (iI v10), .int (iI n1)] _
      refine tm_if_eq (tgt := 36) dX12_acts_29 (by decide) ⟨by omega, by omega⟩ (fun h13 => ?_) (fun h13 => ?_)
      · refine tm_iconst dX12_acts_36 ?_
        refine tm_iadd dX12_acts_37 ?_
        refine tm_istore_n (L' := [(2, .int (iI (n1 + 0))), (3, .int (iI k)), (0, .ref b), (1, .int (iI r))]) dX12_acts_38 rfl (by decide) rfl ?_
        refine tm_iinc (q0 := 1) (L' := [(3, .int (iI (k + 1))), (2, .int (iI (n1 + 0))), (0, .ref b), (1, .int (iI r))]) dX12_acts_39 rfl (by decide) rfl ?_
        refine tm_goto (tgt := 4) dX12_acts_42 (by decide) ?_
        exact tm_sub [0, 1, 2, 3] rfl (ih _ (by omega) (n1 + 0) (k + 1) (by omega) rfl)
      · refine tm_iconst dX12_acts_32 ?_
        refine tm_goto (tgt := 37) dX12_acts_33 (by decide) ?_
        refine tm_iadd dX12_acts_37 ?_
        refine tm_istore_n (L' := [(2, .int (iI (n1 + 1))), (3, .int (iI k)), (0, .ref b), (1, .int (iI r))]) dX12_acts_38 rfl (by decide) rfl ?_
        refine tm_iinc (q0 := 1) (L' := [(3, .int (iI (k + 1))), (2, .int (iI (n1 + 1))), (0, .ref b), (1, .int (iI r))]) dX12_acts_39 rfl (by decide) rfl ?_
        refine tm_goto (tgt := 4) dX12_acts_42 (by decide) ?_
        exact tm_sub [0, 1, 2, 3] rfl (ih _ (by omega) (n1 + 1) (k + 1) (by omega) rfl)
theorem dX12_acts_0 : decode cX12_acts 0 = .ok (.iconst 0, 1) := by decide +kernel
theorem dX12_acts_1 : decode cX12_acts 1 = .ok (.istore_n 2, 1) := by decide +kernel
theorem dX12_acts_2 : decode cX12_acts 2 = .ok (.iconst 0, 1) := by decide +kernel
theorem dX12_acts_3 : decode cX12_acts 3 = .ok (.istore_n 3, 1) := by decide +kernel
theorem dX12_acts_45 : decode cX12_acts 45 = .ok (.iload_n 2, 1) := by decide +kernel
theorem dX12_acts_46 : decode cX12_acts 46 = .ok (.ireturn, 1) := by decide +kernel
set_option maxRecDepth 20000 in
theorem c_X12_acts (d : Nat) {b : Nat} {σ : MS} {r : Int} (hr : 0 ≤ r ∧ r < 12) (hR : RG σ) (hit : ITM σ) : Tm (d + 3) m_X12_acts 0 b σ [(0, .ref b), (1, .int (iI r))] [] (fun ro σ2 => ∃ v : Int, ro = some (.int (iI v)) ∧ σ = σ2 ∧ (0 ≤ v ∧ v ≤ 220)) := by
  refine tm_iconst dX12_acts_0 ?_
  refine tm_istore_n (L' := [(2, .int (iI 0)), (0, .ref b), (1, .int (iI r))]) dX12_acts_1 rfl (by decide) rfl ?_
  refine tm_iconst dX12_acts_2 ?_
  refine tm_istore_n (L' := [(3, .int (iI 0)), (2, .int (iI 0)), (0, .ref b), (1, .int (iI r))]) dX12_acts_3 rfl (by decide) rfl ?_
  refine tm_sub [0, 1, 2, 3] rfl (l_acts (d) (σ := σ) (r := r) hr hR hit (fun n16 k7 f5 => ?_) _ (0) (0) (by omega) rfl)
  show Tm _ _ 45 b σ [(3, .int (iI k7)), (2, .int (iI n16)), (0, .ref b), (1, .int (iI r))] [] _
  refine tm_iload_n dX12_acts_45 rfl 1 rfl ?_
  exact tm_iret rfl dX12_acts_46 (⟨_, rfl, rfl, by omega⟩)
theorem dX12_hasCall_2 : decode cX12_hasCall 2 = .ok (.iload_n 2, 1) := by decide +kernel
theorem dX12_hasCall_3 : decode cX12_hasCall 3 = .ok (.aload_n 0, 1) := by decide +kernel
theorem dX12_hasCall_4 : decode cX12_hasCall 4 = .ok (.getfield 32, 3) := by decide +kernel
theorem dX12_hasCall_7 : decode cX12_hasCall 7 = .ok (.iload_n 1, 1) := by decide +kernel
theorem dX12_hasCall_8 : decode cX12_hasCall 8 = .ok (.iaload, 1) := by decide +kernel
theorem dX12_hasCall_9 : decode cX12_hasCall 9 = .ok (.if_icmp .ge 27, 3) := by decide +kernel
theorem dX12_hasCall_12 : decode cX12_hasCall 12 = .ok (.aload_n 0, 1) := by decide +kernel
theorem dX12_hasCall_13 : decode cX12_hasCall 13 = .ok (.getfield 13, 3) := by decide +kernel
theorem dX12_hasCall_16 : decode cX12_hasCall 16 = .ok (.aload_n 0, 1) := by decide +kernel
theorem dX12_hasCall_17 : decode cX12_hasCall 17 = .ok (.iload_n 1, 1) := by decide +kernel
theorem dX12_hasCall_18 : decode cX12_hasCall 18 = .ok (.iload_n 2, 1) := by decide +kernel
theorem dX12_hasCall_19 : decode cX12_hasCall 19 = .ok (.invokevirtual 203, 3) := by decide +kernel
theorem dX12_hasCall_22 : decode cX12_hasCall 22 = .ok (.iaload, 1) := by decide +kernel
theorem dX12_hasCall_23 : decode cX12_hasCall 23 = .ok (.bipush 10, 2) := by decide +kernel
theorem dX12_hasCall_25 : decode cX12_hasCall 25 = .ok (.if_icmp .ne 5, 3) := by decide +kernel
theorem dX12_hasCall_30 : decode cX12_hasCall 30 = .ok (.iinc 2 1, 3) := by decide +kernel
theorem dX12_hasCall_33 : decode cX12_hasCall 33 = .ok (.goto (-31), 3) := by decide +kernel
theorem dX12_hasCall_28 : decode cX12_hasCall 28 = .ok (.iconst 1, 1) := by decide +kernel
theorem dX12_hasCall_29 : decode cX12_hasCall 29 = .ok (.ireturn, 1) := by decide +kernel
set_option maxRecDepth 20000 in
theorem l_hasCall (d : Nat) {b : Nat} {σ : MS} {r : Int} {post : Option Value → MS → Prop} (hr : 0 ≤ r ∧ r < 12) (hR : RG σ) (hit : ITM σ) (hx_36 : ∀ (k : Int) , (∀ j, 0 ≤ j → j < σ.2.1 9 r → ¬ σ.2.1 3 (220 * r + j) = 10) → Tm (d + 3) m_X12_hasCall 36 b σ [(2, .int (iI k)), (0, .ref b), (1, .int (iI r))] [] post) (hr1 : post (some (.int (iI 1))) σ) : ∀ (n : Nat) (k : Int) , (0 ≤ k ∧ k ≤ 220) → (∀ j, 0 ≤ j → j < k → ¬ σ.2.1 3 (220 * r + j) = 10) → (220 - k).toNat = n → Tm (d + 3) m_X12_hasCall 2 b σ [(2, .int (iI k)), (0, .ref b), (1, .int (iI r))] [] post := by
  intro n
  induction n using Nat.strongRecOn with
  | _ n ih =>
    intro k h0 hj hm
    refine tm_iload_n dX12_hasCall_2 rfl 0 rfl ?_
    refine tm_aload_n dX12_hasCall_3 rfl 1 rfl ?_
    refine tm_get (k := 9) (v := .ref (b + 1 + 7)) lay_12 dX12_hasCall_4 (by decide) fl12_32 rfl ?_
    refine tm_iload_n dX12_hasCall_7 rfl 2 rfl ?_
    refine tm_iald (z := r) (v := σ.2.1 9 r) dX12_hasCall_8 (show mT[7]? = some (9, 0, 13) from rfl) (by omega) (by omega) (by decide) (rfl) ?_
    have g1 := RG.a hR 9 (r)
    have := hit (r) (by omega) (by omega)
    refine tm_icmp_ge (tgt := 36) dX12_hasCall_9 (by decide) ⟨by omega, by omega⟩ ⟨by omega, by omega⟩ (fun h2 => ?_) (fun h2 => ?_)
    · exact tm_sub [0, 1, 2] rfl (hx_36 (k) (fun j a b => hj j a (by omega)))
    · refine tm_aload_n dX12_hasCall_12 rfl 1 rfl ?_
      refine tm_get (k := 3) (v := .ref (b + 1 + 1)) lay_12 dX12_hasCall_13 (by decide) fl12_13 rfl ?_
      refine tm_aload_n dX12_hasCall_16 rfl 1 rfl ?_
      refine tm_iload_n dX12_hasCall_17 rfl 2 rfl ?_
      refine tm_iload_n dX12_hasCall_18 rfl 0 rfl ?_
      refine tm_callV (M := m_X12_hasCall) (pc := 19) (ix := 203) (M' := m_X12_at) (As := [.int (iI r), .int (iI k)]) (rest := [.ref (b + 1 + 1)]) dX12_hasCall_19 ok_X12_at im_X12_at se_X12_at ml12_203 np_X12_at rfl rfl (Nat.le_of_ble_eq_true rfl) (Nat.le_of_ble_eq_true rfl) rfl (c_X12_at (d + 1) (σ := σ) (x := r) (k := k) ) (fun r3 σ4 hp => ?_)
      obtain ⟨v5, rfl, rfl, f6⟩ := hp
      subst f6
      show Tm _ _ 22 b σ [(2, .int (iI k)), (0, .ref b), (1, .int (iI r))] [.int (iI (220 * r + k)), .ref (b + 1 + 1)] _
      refine tm_iald (z := 220 * r + k) (v := σ.2.1 3 (220 * r + k)) dX12_hasCall_22 (show mT[1]? = some (3, 0, 2860) from rfl) (by omega) (by omega) (by decide) (rfl) ?_
      have g7 := RG.a hR 3 (220 * r + k)
      refine tm_bipush dX12_hasCall_23 (by decide) ?_
      refine tm_icmp_ne (tgt := 30) dX12_hasCall_25 (by decide) ⟨by omega, by omega⟩ ⟨by decide, by decide⟩ (fun h8 => ?_) (fun h8 => ?_)
      · refine tm_iinc (q0 := 0) (L' := [(2, .int (iI (k + 1))), (0, .ref b), (1, .int (iI r))]) dX12_hasCall_30 rfl (by decide) rfl ?_
        refine tm_goto (tgt := 2) dX12_hasCall_33 (by decide) ?_
        exact tm_sub [0, 1, 2] rfl (ih _ (by omega) (k + 1) (by omega) (fun j a b => by
          by_cases e : j = k
          · subst e; omega
          · exact hj j a (by omega)) rfl)
      · refine tm_iconst dX12_hasCall_28 ?_
        exact tm_zret (v := 1) rfl (by decide) dX12_hasCall_29 (hr1)
theorem dX12_hasCall_0 : decode cX12_hasCall 0 = .ok (.iconst 0, 1) := by decide +kernel
theorem dX12_hasCall_1 : decode cX12_hasCall 1 = .ok (.istore_n 2, 1) := by decide +kernel
theorem dX12_hasCall_36 : decode cX12_hasCall 36 = .ok (.iconst 0, 1) := by decide +kernel
theorem dX12_hasCall_37 : decode cX12_hasCall 37 = .ok (.ireturn, 1) := by decide +kernel
set_option maxRecDepth 20000 in
theorem c_X12_hasCall (d : Nat) {b : Nat} {σ : MS} {r : Int} (hr : 0 ≤ r ∧ r < 12) (hR : RG σ) (hit : ITM σ) : Tm (d + 3) m_X12_hasCall 0 b σ [(0, .ref b), (1, .int (iI r))] [] (fun ro σ2 => ∃ v : Int, ro = some (.int (iI v)) ∧ σ = σ2 ∧ ((v = 0 ∨ v = 1)) ∧ ((v = 0 → ∀ j, 0 ≤ j → j < σ.2.1 9 r → ¬ σ.2.1 3 (220 * r + j) = 10))) := by
  refine tm_iconst dX12_hasCall_0 ?_
  refine tm_istore_n (L' := [(2, .int (iI 0)), (0, .ref b), (1, .int (iI r))]) dX12_hasCall_1 rfl (by decide) rfl ?_
  refine tm_sub [0, 1, 2] rfl (l_hasCall (d) (σ := σ) (r := r) hr hR hit (fun k5 f4 => ?_) ⟨_, rfl, rfl, Or.inr rfl, fun h => absurd h (by decide)⟩ _ (0) (by omega) (fun j a b => by omega) rfl)
  show Tm _ _ 36 b σ [(2, .int (iI k5)), (0, .ref b), (1, .int (iI r))] [] _
  refine tm_iconst dX12_hasCall_36 ?_
  exact tm_zret (v := 0) rfl (by decide) dX12_hasCall_37 (⟨_, rfl, rfl, Or.inl rfl, fun _ => f4⟩)
theorem fl12_223 : Cond.fieldLink RX12 223 (TX12 23).1 (TX12 23).2.1 (TX12 23).2.2.1 ∈ pWW := pw7 (List.mem_of_getElem? (i := 30) rfl) rfl
theorem dX12_isSign_0 : decode cX12_isSign 0 = .ok (.aload_n 0, 1) := by decide +kernel
theorem dX12_isSign_1 : decode cX12_isSign 1 = .ok (.getfield 226, 3) := by decide +kernel
theorem dX12_isSign_4 : decode cX12_isSign 4 = .ok (.iconst 4, 1) := by decide +kernel
theorem dX12_isSign_5 : decode cX12_isSign 5 = .ok (.if_icmp .ne 15, 3) := by decide +kernel
theorem dX12_isSign_20 : decode cX12_isSign 20 = .ok (.iconst 0, 1) := by decide +kernel
theorem dX12_isSign_21 : decode cX12_isSign 21 = .ok (.ireturn, 1) := by decide +kernel
theorem dX12_isSign_8 : decode cX12_isSign 8 = .ok (.aload_n 0, 1) := by decide +kernel
theorem dX12_isSign_9 : decode cX12_isSign 9 = .ok (.getfield 223, 3) := by decide +kernel
theorem dX12_isSign_12 : decode cX12_isSign 12 = .ok (.iload_n 1, 1) := by decide +kernel
theorem dX12_isSign_13 : decode cX12_isSign 13 = .ok (.if_icmp .ne 7, 3) := by decide +kernel
theorem dX12_isSign_16 : decode cX12_isSign 16 = .ok (.iconst 1, 1) := by decide +kernel
theorem dX12_isSign_17 : decode cX12_isSign 17 = .ok (.goto 4, 3) := by decide +kernel
theorem fl12_219 : Cond.fieldLink RX12 219 (TX12 24).1 (TX12 24).2.1 (TX12 24).2.2.1 ∈ pWW := pw7 (List.mem_of_getElem? (i := 31) rfl) rfl
theorem dX12_isWord_0 : decode cX12_isWord 0 = .ok (.aload_n 0, 1) := by decide +kernel
theorem dX12_isWord_1 : decode cX12_isWord 1 = .ok (.getfield 226, 3) := by decide +kernel
theorem dX12_isWord_4 : decode cX12_isWord 4 = .ok (.iconst 2, 1) := by decide +kernel
theorem dX12_isWord_5 : decode cX12_isWord 5 = .ok (.if_icmp .ne 16, 3) := by decide +kernel
theorem dX12_isWord_21 : decode cX12_isWord 21 = .ok (.iconst 0, 1) := by decide +kernel
theorem dX12_isWord_22 : decode cX12_isWord 22 = .ok (.ireturn, 1) := by decide +kernel
theorem dX12_isWord_8 : decode cX12_isWord 8 = .ok (.aload_n 0, 1) := by decide +kernel
theorem dX12_isWord_9 : decode cX12_isWord 9 = .ok (.getfield 219, 3) := by decide +kernel
theorem dX12_isWord_12 : decode cX12_isWord 12 = .ok (.lload_n 1, 1) := by decide +kernel
theorem dX12_isWord_13 : decode cX12_isWord 13 = .ok (.lcmp, 1) := by decide +kernel
theorem dX12_isWord_14 : decode cX12_isWord 14 = .ok (.ifCond .ne 7, 3) := by decide +kernel
theorem dX12_isWord_17 : decode cX12_isWord 17 = .ok (.iconst 1, 1) := by decide +kernel
theorem dX12_isWord_18 : decode cX12_isWord 18 = .ok (.goto 4, 3) := by decide +kernel
theorem cst12_242 : Cond.constantLong RX12 242 (7304564) ∈ pWW := pw8 (List.mem_of_getElem? (i := 156) rfl) rfl
theorem cst12_244 : Cond.constantLong RX12 244 (125780071117422) ∈ pWW := pw8 (List.mem_of_getElem? (i := 157) rfl) rfl
theorem cst12_246 : Cond.constantLong RX12 246 (26982) ∈ pWW := pw8 (List.mem_of_getElem? (i := 158) rfl) rfl
theorem cst12_248 : Cond.constantLong RX12 248 (1701606245) ∈ pWW := pw8 (List.mem_of_getElem? (i := 159) rfl) rfl
theorem cst12_250 : Cond.constantLong RX12 250 (512852847717) ∈ pWW := pw8 (List.mem_of_getElem? (i := 160) rfl) rfl
theorem dX12_isName_0 : decode cX12_isName 0 = .ok (.aload_n 0, 1) := by decide +kernel
theorem dX12_isName_1 : decode cX12_isName 1 = .ok (.getfield 226, 3) := by decide +kernel
theorem dX12_isName_4 : decode cX12_isName 4 = .ok (.iconst 2, 1) := by decide +kernel
theorem dX12_isName_5 : decode cX12_isName 5 = .ok (.if_icmp .ne 62, 3) := by decide +kernel
theorem dX12_isName_67 : decode cX12_isName 67 = .ok (.iconst 0, 1) := by decide +kernel
theorem dX12_isName_68 : decode cX12_isName 68 = .ok (.ireturn, 1) := by decide +kernel
theorem dX12_isName_8 : decode cX12_isName 8 = .ok (.aload_n 0, 1) := by decide +kernel
theorem dX12_isName_9 : decode cX12_isName 9 = .ok (.getfield 219, 3) := by decide +kernel
theorem dX12_isName_12 : decode cX12_isName 12 = .ok (.ldc2_w 242, 3) := by decide +kernel
theorem dX12_isName_15 : decode cX12_isName 15 = .ok (.lcmp, 1) := by decide +kernel
theorem dX12_isName_16 : decode cX12_isName 16 = .ok (.ifCond .eq 51, 3) := by decide +kernel
theorem dX12_isName_19 : decode cX12_isName 19 = .ok (.aload_n 0, 1) := by decide +kernel
theorem dX12_isName_20 : decode cX12_isName 20 = .ok (.getfield 219, 3) := by decide +kernel
theorem dX12_isName_23 : decode cX12_isName 23 = .ok (.ldc2_w 244, 3) := by decide +kernel
theorem dX12_isName_26 : decode cX12_isName 26 = .ok (.lcmp, 1) := by decide +kernel
theorem dX12_isName_27 : decode cX12_isName 27 = .ok (.ifCond .eq 40, 3) := by decide +kernel
theorem dX12_isName_30 : decode cX12_isName 30 = .ok (.aload_n 0, 1) := by decide +kernel
theorem dX12_isName_31 : decode cX12_isName 31 = .ok (.getfield 219, 3) := by decide +kernel
theorem dX12_isName_34 : decode cX12_isName 34 = .ok (.ldc2_w 246, 3) := by decide +kernel
theorem dX12_isName_37 : decode cX12_isName 37 = .ok (.lcmp, 1) := by decide +kernel
theorem dX12_isName_38 : decode cX12_isName 38 = .ok (.ifCond .eq 29, 3) := by decide +kernel
theorem dX12_isName_41 : decode cX12_isName 41 = .ok (.aload_n 0, 1) := by decide +kernel
theorem dX12_isName_42 : decode cX12_isName 42 = .ok (.getfield 219, 3) := by decide +kernel
theorem dX12_isName_45 : decode cX12_isName 45 = .ok (.ldc2_w 248, 3) := by decide +kernel
theorem dX12_isName_48 : decode cX12_isName 48 = .ok (.lcmp, 1) := by decide +kernel
theorem dX12_isName_49 : decode cX12_isName 49 = .ok (.ifCond .eq 18, 3) := by decide +kernel
theorem dX12_isName_52 : decode cX12_isName 52 = .ok (.aload_n 0, 1) := by decide +kernel
theorem dX12_isName_53 : decode cX12_isName 53 = .ok (.getfield 219, 3) := by decide +kernel
theorem dX12_isName_56 : decode cX12_isName 56 = .ok (.ldc2_w 250, 3) := by decide +kernel
theorem dX12_isName_59 : decode cX12_isName 59 = .ok (.lcmp, 1) := by decide +kernel
theorem dX12_isName_60 : decode cX12_isName 60 = .ok (.ifCond .eq 7, 3) := by decide +kernel
theorem dX12_isName_63 : decode cX12_isName 63 = .ok (.iconst 1, 1) := by decide +kernel
theorem dX12_isName_64 : decode cX12_isName 64 = .ok (.goto 4, 3) := by decide +kernel
theorem fl12_268 : Cond.fieldLink RX12 268 (TX12 30).1 (TX12 30).2.1 (TX12 30).2.2.1 ∈ pWW := pw7 (List.mem_of_getElem? (i := 37) rfl) rfl
theorem dX12_isKept_0 : decode cX12_isKept 0 = .ok (.aload_n 0, 1) := by decide +kernel
theorem dX12_isKept_1 : decode cX12_isKept 1 = .ok (.getfield 268, 3) := by decide +kernel
theorem dX12_isKept_4 : decode cX12_isKept 4 = .ok (.bipush 6, 2) := by decide +kernel
theorem dX12_isKept_6 : decode cX12_isKept 6 = .ok (.if_icmp .ge 7, 3) := by decide +kernel
theorem dX12_isKept_13 : decode cX12_isKept 13 = .ok (.iconst 0, 1) := by decide +kernel
theorem dX12_isKept_14 : decode cX12_isKept 14 = .ok (.ireturn, 1) := by decide +kernel
theorem dX12_isKept_9 : decode cX12_isKept 9 = .ok (.iconst 1, 1) := by decide +kernel
theorem dX12_isKept_10 : decode cX12_isKept 10 = .ok (.goto 4, 3) := by decide +kernel
set_option maxRecDepth 20000 in
theorem c_X12_isKept (d : Nat) {b : Nat} {σ : MS} (hR : RG σ) : Tm (d + 1) m_X12_isKept 0 b σ [(0, .ref b)] [] (fun ro σ2 => ∃ v : Int, ro = some (.int (iI v)) ∧ σ = σ2 ∧ ((v = 0 ∨ v = 1)) ∧ ((v = 1 ↔ σ.1 30 < 6))) := by
  refine tm_aload_n dX12_isKept_0 rfl 0 rfl ?_
  refine tm_getS (k := 30) (t := σ.1 30) dX12_isKept_1 (by decide) fl12_268 rfl (rfl) ?_
  have g1 := RG.s hR 30
  refine tm_bipush dX12_isKept_4 (by decide) ?_
  refine tm_icmp_ge (tgt := 13) dX12_isKept_6 (by decide) ⟨by omega, by omega⟩ ⟨by decide, by decide⟩ (fun h2 => ?_) (fun h2 => ?_)
  · refine tm_iconst dX12_isKept_13 ?_
    exact tm_zret (v := 0) rfl (by decide) dX12_isKept_14 (⟨_, rfl, rfl, by omega, by omega⟩)
  · refine tm_iconst dX12_isKept_9 ?_
    refine tm_goto (tgt := 14) dX12_isKept_10 (by decide) ?_
    exact tm_zret (v := 1) rfl (by decide) dX12_isKept_14 (⟨_, rfl, rfl, by omega, by omega⟩)
theorem fl12_285 : Cond.fieldLink RX12 285 (TX12 39).1 (TX12 39).2.1 (TX12 39).2.2.1 ∈ pWW := pw7 (List.mem_of_getElem? (i := 46) rfl) rfl
theorem fl12_288 : Cond.fieldLink RX12 288 (TX12 40).1 (TX12 40).2.1 (TX12 40).2.2.1 ∈ pWW := pw7 (List.mem_of_getElem? (i := 47) rfl) rfl
theorem dX12_give_0 : decode cX12_give 0 = .ok (.aload_n 0, 1) := by decide +kernel
theorem dX12_give_1 : decode cX12_give 1 = .ok (.iload_n 1, 1) := by decide +kernel
theorem dX12_give_2 : decode cX12_give 2 = .ok (.putfield 285, 3) := by decide +kernel
theorem dX12_give_5 : decode cX12_give 5 = .ok (.aload_n 0, 1) := by decide +kernel
theorem dX12_give_6 : decode cX12_give 6 = .ok (.iload_n 2, 1) := by decide +kernel
theorem dX12_give_7 : decode cX12_give 7 = .ok (.putfield 288, 3) := by decide +kernel
theorem dX12_give_10 : decode cX12_give 10 = .ok (.return_, 1) := by decide +kernel
theorem fl12_376 : Cond.fieldLink RX12 376 (TX12 43).1 (TX12 43).2.1 (TX12 43).2.2.1 ∈ pWW := pw7 (List.mem_of_getElem? (i := 50) rfl) rfl
theorem fl12_82 : Cond.fieldLink RX12 82 (TX12 44).1 (TX12 44).2.1 (TX12 44).2.2.1 ∈ pWW := pw7 (List.mem_of_getElem? (i := 51) rfl) rfl
theorem dX12_routineBy_2 : decode cX12_routineBy 2 = .ok (.iload_n 3, 1) := by decide +kernel
theorem dX12_routineBy_3 : decode cX12_routineBy 3 = .ok (.aload_n 0, 1) := by decide +kernel
theorem dX12_routineBy_4 : decode cX12_routineBy 4 = .ok (.getfield 376, 3) := by decide +kernel
theorem dX12_routineBy_7 : decode cX12_routineBy 7 = .ok (.if_icmp .ge 22, 3) := by decide +kernel
theorem dX12_routineBy_10 : decode cX12_routineBy 10 = .ok (.aload_n 0, 1) := by decide +kernel
theorem dX12_routineBy_11 : decode cX12_routineBy 11 = .ok (.getfield 82, 3) := by decide +kernel
theorem dX12_routineBy_14 : decode cX12_routineBy 14 = .ok (.iload_n 3, 1) := by decide +kernel
theorem dX12_routineBy_15 : decode cX12_routineBy 15 = .ok (.laload, 1) := by decide +kernel
theorem dX12_routineBy_16 : decode cX12_routineBy 16 = .ok (.lload_n 1, 1) := by decide +kernel
theorem dX12_routineBy_17 : decode cX12_routineBy 17 = .ok (.lcmp, 1) := by decide +kernel
theorem dX12_routineBy_18 : decode cX12_routineBy 18 = .ok (.ifCond .ne 5, 3) := by decide +kernel
theorem dX12_routineBy_23 : decode cX12_routineBy 23 = .ok (.iinc 3 1, 3) := by decide +kernel
theorem dX12_routineBy_26 : decode cX12_routineBy 26 = .ok (.goto (-24), 3) := by decide +kernel
theorem dX12_routineBy_21 : decode cX12_routineBy 21 = .ok (.iload_n 3, 1) := by decide +kernel
theorem dX12_routineBy_22 : decode cX12_routineBy 22 = .ok (.ireturn, 1) := by decide +kernel
theorem dX12_routineBy_0 : decode cX12_routineBy 0 = .ok (.iconst 0, 1) := by decide +kernel
theorem dX12_routineBy_1 : decode cX12_routineBy 1 = .ok (.istore_n 3, 1) := by decide +kernel
theorem dX12_routineBy_29 : decode cX12_routineBy 29 = .ok (.iconst (-1), 1) := by decide +kernel
theorem dX12_routineBy_30 : decode cX12_routineBy 30 = .ok (.ireturn, 1) := by decide +kernel
theorem fl12_85 : Cond.fieldLink RX12 85 (TX12 45).1 (TX12 45).2.1 (TX12 45).2.2.1 ∈ pWW := pw7 (List.mem_of_getElem? (i := 52) rfl) rfl
theorem dX12_calledMany_0 : decode cX12_calledMany 0 = .ok (.aload_n 0, 1) := by decide +kernel
theorem dX12_calledMany_1 : decode cX12_calledMany 1 = .ok (.getfield 85, 3) := by decide +kernel
theorem dX12_calledMany_4 : decode cX12_calledMany 4 = .ok (.iload_n 1, 1) := by decide +kernel
theorem dX12_calledMany_5 : decode cX12_calledMany 5 = .ok (.iaload, 1) := by decide +kernel
theorem dX12_calledMany_6 : decode cX12_calledMany 6 = .ok (.ireturn, 1) := by decide +kernel
set_option maxRecDepth 20000 in
theorem c_X12_calledMany (d : Nat) {b : Nat} {σ : MS} {q : Int} (hq : 0 ≤ q ∧ q < 260) : Tm (d + 1) m_X12_calledMany 0 b σ [(0, .ref b), (1, .int (iI q))] [] (fun ro σ2 => ∃ v : Int, ro = some (.int (iI v)) ∧ σ = σ2 ∧ (v = σ.2.1 45 q)) := by
  refine tm_aload_n dX12_calledMany_0 rfl 0 rfl ?_
  refine tm_get (k := 45) (v := .ref (b + 1 + 23)) lay_12 dX12_calledMany_1 (by decide) fl12_85 rfl ?_
  refine tm_iload_n dX12_calledMany_4 rfl 1 rfl ?_
  refine tm_iald (z := q) (v := σ.2.1 45 q) dX12_calledMany_5 (show mT[23]? = some (45, 0, 260) from rfl) (by omega) (by omega) (by decide) (rfl) ?_
  exact tm_iret rfl dX12_calledMany_6 (⟨_, rfl, rfl, by omega⟩)
theorem fl12_391 : Cond.fieldLink RX12 391 (TX12 10).1 (TX12 10).2.1 (TX12 10).2.2.1 ∈ pWW := pw7 (List.mem_of_getElem? (i := 17) rfl) rfl
theorem dX12_isRoutine_0 : decode cX12_isRoutine 0 = .ok (.iload_n 1, 1) := by decide +kernel
theorem dX12_isRoutine_1 : decode cX12_isRoutine 1 = .ok (.iconst 0, 1) := by decide +kernel
theorem dX12_isRoutine_2 : decode cX12_isRoutine 2 = .ok (.aload_n 0, 1) := by decide +kernel
theorem dX12_isRoutine_3 : decode cX12_isRoutine 3 = .ok (.getfield 391, 3) := by decide +kernel
theorem dX12_isRoutine_6 : decode cX12_isRoutine 6 = .ok (.iconst 1, 1) := by decide +kernel
theorem dX12_isRoutine_7 : decode cX12_isRoutine 7 = .ok (.isub, 1) := by decide +kernel
theorem dX12_isRoutine_8 : decode cX12_isRoutine 8 = .ok (.invokestatic 188, 3) := by decide +kernel
theorem dX12_isRoutine_11 : decode cX12_isRoutine 11 = .ok (.ireturn, 1) := by decide +kernel
set_option maxRecDepth 20000 in
theorem c_X12_isRoutine (d : Nat) {b : Nat} {σ : MS} {x : Int} (hR : RG σ) (ht : 0 ≤ σ.1 10 ∧ σ.1 10 ≤ 6) (h_x : -2147483648 ≤ x ∧ x ≤ 2147483647) : Tm (d + 2) m_X12_isRoutine 0 b σ [(0, .ref b), (1, .int (iI x))] [] (fun ro σ2 => ∃ v : Int, ro = some (.int (iI v)) ∧ σ = σ2 ∧ ((v = 0 ∨ v = 1)) ∧ ((v = 1 ↔ 0 ≤ x ∧ x < σ.1 10))) := by
  refine tm_iload_n dX12_isRoutine_0 rfl 1 rfl ?_
  refine tm_iconst dX12_isRoutine_1 ?_
  refine tm_aload_n dX12_isRoutine_2 rfl 0 rfl ?_
  refine tm_getS (k := 10) (t := σ.1 10) dX12_isRoutine_3 (by decide) fl12_391 rfl (rfl) ?_
  have g1 := RG.s hR 10
  refine tm_iconst dX12_isRoutine_6 ?_
  refine tm_isub dX12_isRoutine_7 ?_
  refine tm_callS (M := m_X12_isRoutine) (pc := 8) (ix := 188) (M' := m_X12_in) (As := [.int (iI x), .int (iI 0), .int (iI ((σ.1 10) - 1))]) (rest := []) dX12_isRoutine_8 ok_X12_in stt_X12_in ml12_188 np_X12_in rfl (Nat.le_of_ble_eq_true rfl) (Nat.le_of_ble_eq_true rfl) rfl (c_X12_in (d) (σ := σ) (x := x) (lo := 0) (hi := (σ.1 10) - 1) (by omega) (by omega) (by omega)) (fun r2 σ3 hp => ?_)
  obtain ⟨v4, rfl, rfl, f5, f6⟩ := hp
  show Tm _ _ 11 b σ [(0, .ref b), (1, .int (iI x))] [.int (iI v4)] _
  exact tm_zret (v := v4) rfl (by omega) dX12_isRoutine_11 (⟨_, rfl, rfl, by omega, by omega⟩)
theorem fl12_56 : Cond.fieldLink RX12 56 (TX12 18).1 (TX12 18).2.1 (TX12 18).2.2.1 ∈ pWW := pw7 (List.mem_of_getElem? (i := 25) rfl) rfl
theorem dX12_paramAt_0 : decode cX12_paramAt 0 = .ok (.iload_n 1, 1) := by decide +kernel
theorem dX12_paramAt_1 : decode cX12_paramAt 1 = .ok (.iconst 2, 1) := by decide +kernel
theorem dX12_paramAt_2 : decode cX12_paramAt 2 = .ok (.if_icmp .ne 7, 3) := by decide +kernel
theorem dX12_paramAt_9 : decode cX12_paramAt 9 = .ok (.aload_n 0, 1) := by decide +kernel
theorem dX12_paramAt_10 : decode cX12_paramAt 10 = .ok (.getfield 56, 3) := by decide +kernel
theorem dX12_paramAt_13 : decode cX12_paramAt 13 = .ok (.sipush 144, 3) := by decide +kernel
theorem dX12_paramAt_16 : decode cX12_paramAt 16 = .ok (.iload_n 2, 1) := by decide +kernel
theorem dX12_paramAt_17 : decode cX12_paramAt 17 = .ok (.imul, 1) := by decide +kernel
theorem dX12_paramAt_18 : decode cX12_paramAt 18 = .ok (.iload_n 3, 1) := by decide +kernel
theorem dX12_paramAt_19 : decode cX12_paramAt 19 = .ok (.iadd, 1) := by decide +kernel
theorem dX12_paramAt_20 : decode cX12_paramAt 20 = .ok (.iaload, 1) := by decide +kernel
theorem dX12_paramAt_21 : decode cX12_paramAt 21 = .ok (.ireturn, 1) := by decide +kernel
theorem dX12_paramAt_5 : decode cX12_paramAt 5 = .ok (.iload_n 3, 1) := by decide +kernel
theorem dX12_paramAt_6 : decode cX12_paramAt 6 = .ok (.goto 15, 3) := by decide +kernel
set_option maxRecDepth 20000 in
theorem c_X12_paramAt (d : Nat) {b : Nat} {σ : MS} {m : Int} {x : Int} {n : Int} (hx : 0 ≤ 144 * x + n ∧ 144 * x + n < 864) (h_m : -2147483648 ≤ m ∧ m ≤ 2147483647) : Tm (d + 1) m_X12_paramAt 0 b σ [(0, .ref b), (1, .int (iI m)), (2, .int (iI x)), (3, .int (iI n))] [] (fun ro σ2 => ∃ v : Int, ro = some (.int (iI v)) ∧ σ = σ2 ∧ ((m = 2 → v = n)) ∧ ((m ≠ 2 → v = σ.2.1 18 (144 * x + n)))) := by
  refine tm_iload_n dX12_paramAt_0 rfl 1 rfl ?_
  refine tm_iconst dX12_paramAt_1 ?_
  refine tm_icmp_ne (tgt := 9) dX12_paramAt_2 (by decide) ⟨by omega, by omega⟩ ⟨by decide, by decide⟩ (fun h1 => ?_) (fun h1 => ?_)
  · refine tm_aload_n dX12_paramAt_9 rfl 0 rfl ?_
    refine tm_get (k := 18) (v := .ref (b + 1 + 15)) lay_12 dX12_paramAt_10 (by decide) fl12_56 rfl ?_
    refine tm_sipush dX12_paramAt_13 (by decide) ?_
    refine tm_iload_n dX12_paramAt_16 rfl 2 rfl ?_
    refine tm_imul dX12_paramAt_17 ?_
    refine tm_iload_n dX12_paramAt_18 rfl 3 rfl ?_
    refine tm_iadd dX12_paramAt_19 ?_
    refine tm_iald (z := (144 * x) + n) (v := σ.2.1 18 ((144 * x) + n)) dX12_paramAt_20 (show mT[15]? = some (18, 0, 864) from rfl) (by omega) (by omega) (by decide) (rfl) ?_
    exact tm_iret rfl dX12_paramAt_21 (⟨_, rfl, rfl, by omega, by omega⟩)
  · refine tm_iload_n dX12_paramAt_5 rfl 3 rfl ?_
    refine tm_goto (tgt := 21) dX12_paramAt_6 (by decide) ?_
    exact tm_iret rfl dX12_paramAt_21 (⟨_, rfl, rfl, by omega, by omega⟩)
theorem fl12_179 : Cond.fieldLink RX12 179 (TX12 82).1 (TX12 82).2.1 (TX12 82).2.2.1 ∈ pWW := pw7 (List.mem_of_getElem? (i := 87) rfl) rfl
theorem dX12_worth_0 : decode cX12_worth 0 = .ok (.iload_n 2, 1) := by decide +kernel
theorem dX12_worth_1 : decode cX12_worth 1 = .ok (.iconst 2, 1) := by decide +kernel
theorem dX12_worth_2 : decode cX12_worth 2 = .ok (.if_icmp .ne 18, 3) := by decide +kernel
theorem dX12_worth_20 : decode cX12_worth 20 = .ok (.iload_n 3, 1) := by decide +kernel
theorem dX12_worth_21 : decode cX12_worth 21 = .ok (.ireturn, 1) := by decide +kernel
theorem dX12_worth_5 : decode cX12_worth 5 = .ok (.aload_n 0, 1) := by decide +kernel
theorem dX12_worth_6 : decode cX12_worth 6 = .ok (.getfield 179, 3) := by decide +kernel
theorem dX12_worth_9 : decode cX12_worth 9 = .ok (.sipush 192, 3) := by decide +kernel
theorem dX12_worth_12 : decode cX12_worth 12 = .ok (.iload_n 1, 1) := by decide +kernel
theorem dX12_worth_13 : decode cX12_worth 13 = .ok (.imul, 1) := by decide +kernel
theorem dX12_worth_14 : decode cX12_worth 14 = .ok (.iload_n 3, 1) := by decide +kernel
theorem dX12_worth_15 : decode cX12_worth 15 = .ok (.iadd, 1) := by decide +kernel
theorem dX12_worth_16 : decode cX12_worth 16 = .ok (.iaload, 1) := by decide +kernel
theorem dX12_worth_17 : decode cX12_worth 17 = .ok (.goto 4, 3) := by decide +kernel
set_option maxRecDepth 20000 in
theorem c_X12_worth (d : Nat) {b : Nat} {σ : MS} {c : Int} {k : Int} {w : Int} (hk : k = 2 → 0 ≤ 192 * c + w ∧ 192 * c + w < 5184) (hR : RG σ) (h_k : -2147483648 ≤ k ∧ k ≤ 2147483647) (h_w : -2147483648 ≤ w ∧ w ≤ 2147483647) : Tm (d + 1) m_X12_worth 0 b σ [(0, .ref b), (1, .int (iI c)), (2, .int (iI k)), (3, .int (iI w))] [] (fun ro σ2 => ∃ v : Int, ro = some (.int (iI v)) ∧ σ = σ2 ∧ (-2147483648 ≤ v ∧ v ≤ 2147483647)) := by
  refine tm_iload_n dX12_worth_0 rfl 2 rfl ?_
  refine tm_iconst dX12_worth_1 ?_
  refine tm_icmp_ne (tgt := 20) dX12_worth_2 (by decide) ⟨by omega, by omega⟩ ⟨by decide, by decide⟩ (fun h1 => ?_) (fun h1 => ?_)
  · refine tm_iload_n dX12_worth_20 rfl 3 rfl ?_
    exact tm_iret rfl dX12_worth_21 (⟨_, rfl, rfl, by omega⟩)
  · refine tm_aload_n dX12_worth_5 rfl 0 rfl ?_
    refine tm_get (k := 82) (v := .ref (b + 1 + 53)) lay_12 dX12_worth_6 (by decide) fl12_179 rfl ?_
    refine tm_sipush dX12_worth_9 (by decide) ?_
    refine tm_iload_n dX12_worth_12 rfl 1 rfl ?_
    refine tm_imul dX12_worth_13 ?_
    refine tm_iload_n dX12_worth_14 rfl 3 rfl ?_
    refine tm_iadd dX12_worth_15 ?_
    refine tm_iald (z := (192 * c) + w) (v := σ.2.1 82 ((192 * c) + w)) dX12_worth_16 (show mT[53]? = some (82, 0, 5184) from rfl) (by omega) (by omega) (by decide) (rfl) ?_
    have g2 := RG.a hR 82 ((192 * c) + w)
    refine tm_goto (tgt := 21) dX12_worth_17 (by decide) ?_
    exact tm_iret rfl dX12_worth_21 (⟨_, rfl, rfl, by omega⟩)
end
