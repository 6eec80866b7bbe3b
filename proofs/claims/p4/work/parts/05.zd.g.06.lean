set_option maxHeartbeats 4000000 in
set_option maxRecDepth 20000 in
theorem l_X9_scan_f_24 (d : Nat) {T : CT} {σ0 : MS} {a : Nat} {rx1 : Nat} {c3 : Int} {fT : Int → Int} {Sx : Int → Int} {post : Option Value → CT → MS → Prop} (h_a : OB T a 9) (h_rx1 : (T rx1).1 = 2) (l_rx1 : (T rx1).2 ≤ 1000000) (r_c3 : 0 ≤ c3 ∧ c3 ≤ 1200) (hw0 : WT T σ0) (ht : (T rx1).2 = 1200) (hB : BYT fT) (hSx : Sx = svC fT c3) (hx_92 : ∀ (i4 : Int) (i5 : Int) (σ : MS) , (WT T σ) → (FrC T [85, 86, 87, 512, 522, 523] σ0 σ) → (0 ≤ i4 ∧ i4 ≤ 1200) → (0 ≤ i5 ∧ i5 ≤ 1200) → (i4 ≤ i5 ∧ i5 ≤ c3) → (SCI σ a Sx (i4) (i5)) → (RWE σ rx1 fT c3) → (σ.2.1 85 a ≠ 263 → i5 = c3) → Tn (d + 3) m_X9_scan 92 T σ [(0, .ref a), (1, .ref rx1), (3, .int (iI c3)), (4, .int (iI i4)), (5, .int (iI i5))] [] post) : ∀ (n : Nat) (i4 : Int) (i5 : Int) (σ : MS) , (WT T σ) → (FrC T [85, 86, 87, 512, 522, 523] σ0 σ) → (0 ≤ i4 ∧ i4 ≤ 1200) → (0 ≤ i5 ∧ i5 ≤ 1200) → (i4 ≤ i5 ∧ i5 ≤ c3) → (SCI σ a Sx (i4) (i5)) → (RWE σ rx1 fT c3) → (2000 - i5).toNat = n → Tn (d + 3) m_X9_scan 24 T σ [(0, .ref a), (1, .ref rx1), (3, .int (iI c3)), (4, .int (iI i4)), (5, .int (iI i5))] [] post := by
  intro n
  induction n using Nat.strongRecOn with
  | _ n ih =>
    intro i4 i5 σ hw hF r_i4 r_i5 h0 hsc hrow hm
    refine tn_iload dX9_scan_24 4 rfl ?_
    refine tn_iload_n dX9_scan_26 rfl 2 rfl ?_
    refine tn_icmp_ge (tgt := 92) dX9_scan_27 (by decide) ⟨by omega, by omega⟩ ⟨by omega, by omega⟩ (fun h1 => ?_) (fun h1 => ?_)
    · exact tn_sub [0, 1, 2, 3, 4] rfl (hx_92 (i4) (i5) σ hw (FrC.rfl.trans (FrC.sub hF (by decide))) (by omega) (by omega) (by omega) hsc hrow (fun q => by omega))
    · refine tn_aload_n dX9_scan_30 rfl 0 rfl ?_
      refine tn_getI (ci := 9) (i := 4) (n := 85) (t := σ.2.1 85 a) dX9_scan_31 rfl lay_9 (by decide) fl9_30 h_a rfl rfl (rfl) ?_
      have g2 : ((-2147483648 : Int) ≤ σ.2.1 85 a ∧ σ.2.1 85 a ≤ 2147483647) := wf_85 hw h_a
      refine tn_sipush dX9_scan_34 (by decide) ?_
      refine tn_icmp_eq (tgt := 92) dX9_scan_37 (by decide) ⟨by omega, by omega⟩ ⟨by decide, by decide⟩ (fun h3 => ?_) (fun h3 => ?_)
      · exact tn_sub [0, 1, 2, 3, 4] rfl (hx_92 (i4) (i5) σ hw (FrC.rfl.trans (FrC.sub hF (by decide))) (by omega) (by omega) (by omega) hsc hrow (fun q => by omega))
      · refine tn_aload_n dX9_scan_40 rfl 1 rfl ?_
        refine tn_iload dX9_scan_41 4 rfl ?_
        have g4 := hB (i5)
        refine tn_bald (z := i5) (v := fT (i5)) dX9_scan_43 h_rx1 (by omega) (by omega) (by omega) (hrow (i5) (by omega) (by omega)) ?_
        refine tn_bipush dX9_scan_44 (by decide) ?_
        refine tn_icmp_eq (tgt := 58) dX9_scan_46 (by decide) ⟨by omega, by omega⟩ ⟨by decide, by decide⟩ (fun h5 => ?_) (fun h5 => ?_)
        · refine tn_iinc (q0 := 4) (L' := [(5, .int (iI (i5 + 1))), (0, .ref a), (1, .ref rx1), (3, .int (iI c3)), (4, .int (iI i4))]) dX9_scan_58 rfl (by decide) rfl ?_
          refine tn_goto (tgt := 24) dX9_scan_61 (by decide) ?_
          exact tn_sub [1, 2, 3, 4, 0] rfl (ih _ (by omega) (i4) (i5 + 1) σ hw (FrC.rfl.trans (FrC.sub hF (by decide))) (by omega) (by omega) (by omega) (SCI.bl hsc (by omega) (by have e9 := is_byte hSx (k := i5) (by omega) (by omega); omega) (by omega)) hrow rfl)
        · refine tn_aload_n dX9_scan_49 rfl 1 rfl ?_
          refine tn_iload dX9_scan_50 4 rfl ?_
          have g6 := hB (i5)
          refine tn_bald (z := i5) (v := fT (i5)) dX9_scan_52 h_rx1 (by omega) (by omega) (by omega) (hrow (i5) (by omega) (by omega)) ?_
          refine tn_bipush dX9_scan_53 (by decide) ?_
          refine tn_icmp_ne (tgt := 64) dX9_scan_55 (by decide) ⟨by omega, by omega⟩ ⟨by decide, by decide⟩ (fun h7 => ?_) (fun h7 => ?_)
          · refine tn_aload_n dX9_scan_64 rfl 0 rfl ?_
            refine tn_iload dX9_scan_65 4 rfl ?_
            refine tn_putV (ci := 9) (i := 6) (n := 87) (r := false) (v := i5) tyX9 tyX9_ok nmX9 dX9_scan_67 rfl lay_9 (by decide) fl9_34 rfl (tyX9_ok 6 (by decide)) rfl rfl rfl h_a rfl rfl ?_
            refine tn_aload_n dX9_scan_70 rfl 0 rfl ?_
            refine tn_aload_n dX9_scan_71 rfl 1 rfl ?_
            refine tn_iload_n dX9_scan_72 rfl 2 rfl ?_
            refine tn_iload dX9_scan_73 4 rfl ?_
            refine tn_callV (M := m_X9_scan) (pc := 75) (ix := 37) (ci := 9) (M' := m_X9_scanOne) (As := [.ref rx1, .int (iI c3), .int (iI i5)]) (rest := []) dX9_scan_75 ok_X9_scanOne im_X9_scanOne se_X9_scanOne ml9_37 np_X9_scanOne rfl rfl h_a rfl (Nat.le_of_ble_eq_true rfl) (Nat.le_of_ble_eq_true rfl) rfl (k_X9_scanOne_f (d) (T := T) (σ := (sA 87 a (i5) σ)) (a := a) (t := rx1) (l := c3) (i := i5) h_a h_rx1 (by omega) (by omega) (by omega) (hw.put (by decide) (by decide) (fo_87 (by omega))) (by omega) ht (RWE.cg hrow (sA_k (by omega))) hB hSx) (fun r8 T10 σ9 gt11 hp => ?_)
            obtain ⟨v15, rfl, rfl, w16, F17, f12, f13, f14⟩ := hp
            clear gt11
            show Tn _ _ 78 T σ9 [(0, .ref a), (1, .ref rx1), (3, .int (iI c3)), (4, .int (iI i4)), (5, .int (iI i5))] [.int (iI v15)] _
            refine tn_istore (L' := [(5, .int (iI v15)), (0, .ref a), (1, .ref rx1), (3, .int (iI c3)), (4, .int (iI i4))]) dX9_scan_78 (by decide) rfl ?_
            refine tn_aload_n dX9_scan_80 rfl 1 rfl ?_
            refine tn_iload dX9_scan_81 4 rfl ?_
            have q22 : σ9.2.1 87 a = i5 := rc_F F17 (Or.inl (by decide)) (by decide) (ra_eq)
            refine tn_callV (M := m_X9_scan) (pc := 83) (ix := 41) (ci := 9) (M' := m_X9_keep) (As := [.int (iI i4)]) (rest := []) dX9_scan_83 ok_X9_keep im_X9_keep se_X9_keep ml9_41 np_X9_keep rfl rfl h_a rfl (Nat.le_of_ble_eq_true rfl) (Nat.le_of_ble_eq_true rfl) rfl (k_X9_keep_f (d) (T := T) (σ := σ9) (a := a) (n := i4) h_a (by omega) w16 (by omega) (by omega)) (fun r18 T20 σ19 gt21 hp => ?_)
            obtain ⟨rfl, rfl, w25, F26, f23⟩ := hp
            clear gt21
            show Tn _ _ 86 T σ19 [(5, .int (iI v15)), (0, .ref a), (1, .ref rx1), (3, .int (iI c3)), (4, .int (iI i4))] [] _
            refine tn_iinc (q0 := 4) (L' := [(4, .int (iI (i4 + 1))), (5, .int (iI v15)), (0, .ref a), (1, .ref rx1), (3, .int (iI c3))]) dX9_scan_86 rfl (by decide) rfl ?_
            refine tn_goto (tgt := 24) dX9_scan_89 (by decide) ?_
            have w27F : FrC T [85, 86, 87] σ σ9 := ((FrC.rfl.put (by decide) (by decide)).trans (FrC.sub F17 (by decide)))
            have w27r := rowsT hw h_a w27F (by decide) (by decide) (by decide)
            have w2781 : σ9.2.1 81 = σ.2.1 81 := w27F.1 81 (Or.inl (by decide)) (by decide)
            have w2782 : σ9.2.1 82 = σ.2.1 82 := w27F.1 82 (Or.inl (by decide)) (by decide)
            have w2783 : σ9.2.1 83 = σ.2.1 83 := w27F.1 83 (Or.inl (by decide)) (by decide)
            have w27k : KPQ σ σ19 a (i4) (σ9.2.1 85 a) (σ9.2.1 86 a) (i5) := ⟨fun k hk i => by rw [f23.1 k (by rw [w2781]; exact hk) i, w27r k (Or.inl hk)], fun k hk i => by rw [f23.2.1 k (by rw [w2782]; exact hk) i, w27r k (Or.inr (Or.inl hk))], fun k hk i => by rw [f23.2.2 k (by rw [w2783]; exact hk) i, w27r k (Or.inr (Or.inr hk)), show σ9.2.1 87 a = i5 from rc_F F17 (Or.inl (by decide)) (by decide) (ra_eq)]⟩
            have w27f : ∀ k ∈ [81, 82, 83], σ19.2.1 k = σ.2.1 k := fun k hk => (F26.1 k (Or.inl ((by decide : ∀ k ∈ [81, 82, 83], k < 200) k hk)) ((by decide : ∀ k ∈ [81, 82, 83], k ∉ [512, 522, 523]) k hk)).trans (w27F.1 k (Or.inl ((by decide : ∀ k ∈ [81, 82, 83], k < 200) k hk)) ((by decide : ∀ k ∈ [81, 82, 83], k ∉ [85, 86, 87]) k hk))
            exact tn_sub [2, 3, 4, 0, 1] rfl (ih _ (by omega) (i4 + 1) (v15) σ19 w25 ((((FrC.rfl.trans (FrC.sub hF (by decide))).put (by decide) (by decide)).trans (FrC.sub F17 (by decide))).trans (FrC.sub F26 (by decide))) (by omega) (by omega) (by omega) (SCI.tk hsc (by rw [hSx]; exact svC_sb hB) (by rw [hSx]; exact svC_sen (by omega)) (by omega) (by omega) (not_blk hSx hB (by omega) (by omega) (by omega)) (in_byte hSx hB (by omega)) f14 w27f w27k (F26.1 85 (Or.inl (by decide)) (by decide) ▸ rfl)) (RWE.cg (RWE.cg (RWE.cg hrow (sA_k (by omega))) (F17.2 rx1 (by rw [h_rx1]; unfold HT; omega) (by rw [h_rx1]; decide))) (F26.2 rx1 (by rw [h_rx1]; unfold HT; omega) (by rw [h_rx1]; decide))) rfl)
          · refine tn_iinc (q0 := 4) (L' := [(5, .int (iI (i5 + 1))), (0, .ref a), (1, .ref rx1), (3, .int (iI c3)), (4, .int (iI i4))]) dX9_scan_58 rfl (by decide) rfl ?_
            refine tn_goto (tgt := 24) dX9_scan_61 (by decide) ?_
            exact tn_sub [1, 2, 3, 4, 0] rfl (ih _ (by omega) (i4) (i5 + 1) σ hw (FrC.rfl.trans (FrC.sub hF (by decide))) (by omega) (by omega) (by omega) (SCI.bl hsc (by omega) (by have e9 := is_byte hSx (k := i5) (by omega) (by omega); omega) (by omega)) hrow rfl)
set_option maxHeartbeats 4000000 in
set_option maxRecDepth 20000 in
theorem k_X9_scan_f (d : Nat) {T : CT} {σ : MS} {a : Nat} {t : Nat} {n : Int} {fT Sx : Int → Int} (ha : OB T a 9) (h_t : (T t).1 = 2) (l_t : (T t).2 ≤ 1000000) (h_n : -2147483648 ≤ n ∧ n ≤ 2147483647) (hw : WT T σ) (ht : (T t).2 = 1200) (hn : 0 ≤ n ∧ n ≤ 1200) (hfT : RWE σ t fT n) (hB : BYT fT) (hSx : Sx = svC fT n) : Tn (d + 3) m_X9_scan 0 T σ [(0, .ref a), (1, .ref t), (2, .int (iI n))] [] (fun ro T2 σ2 => ro = none ∧ T = T2 ∧ WT T2 σ2 ∧ FrC T [84, 85, 86, 87, 512, 522, 523] σ σ2 ∧ (TKI σ2 a) ∧ (∃ m : Nat, TKT σ2 a Sx m 0)) := by
  have hrow := hfT
  refine tn_iconst dX9_scan_0 ?_
  refine tn_iload_n dX9_scan_1 rfl 2 rfl ?_
  refine tn_aload_n dX9_scan_2 rfl 1 rfl ?_
  refine tn_alenX dX9_scan_3 (Or.inr (Or.inl h_t)) ?_
  refine tn_mmin (x := n) (y := ((T t).2 : Int)) dX9_scan_4 mlm9_21 stM_min iniM cdM_min (by omega) (Nat.le_of_ble_eq_true rfl) ⟨by omega, by omega⟩ ⟨by omega, by omega⟩ (fun z1 g2 => ?_)
  refine tn_mmax (x := 0) (y := z1) dX9_scan_7 mlm9_27 stM_max iniM cdM_max (by omega) (Nat.le_of_ble_eq_true rfl) ⟨by omega, by omega⟩ ⟨by omega, by omega⟩ (fun z3 g4 => ?_)
  refine tn_istore_n (L' := [(3, .int (iI z3)), (0, .ref a), (1, .ref t), (2, .int (iI n))]) dX9_scan_10 rfl (by decide) rfl ?_
  refine tn_iconst dX9_scan_11 ?_
  refine tn_istore (L' := [(4, .int (iI 0)), (3, .int (iI z3)), (0, .ref a), (1, .ref t), (2, .int (iI n))]) dX9_scan_12 (by decide) rfl ?_
  refine tn_iconst dX9_scan_14 ?_
  refine tn_istore (L' := [(5, .int (iI 0)), (4, .int (iI 0)), (3, .int (iI z3)), (0, .ref a), (1, .ref t), (2, .int (iI n))]) dX9_scan_15 (by decide) rfl ?_
  refine tn_aload_n dX9_scan_17 rfl 3 rfl ?_
  refine tn_sipush dX9_scan_18 (by decide) ?_
  refine tn_putV (ci := 9) (i := 4) (n := 85) (r := false) (v := 264) tyX9 tyX9_ok nmX9 dX9_scan_21 rfl lay_9 (by decide) fl9_30 rfl (tyX9_ok 4 (by decide)) rfl rfl rfl ha rfl rfl ?_
  have q5 : (sA 85 a (264) σ).2.1 85 a = 264 := ra_eq
  refine tn_sub [3, 4, 2, 1, 0] rfl (l_X9_scan_f_24 (d) (T := T) (σ0 := (sA 85 a (264) σ)) (a := a) (rx1 := t) (c3 := z3) (fT := fT) (Sx := Sx) ha h_t (by omega) (by omega) (hw.put (by decide) (by decide) (fo_85 (by omega))) ht hB (by rw [show z3 = n by omega]; exact hSx) (fun i46 i57 σ8 w11 F12 r13 r14 f15 f16 f17 f18 => ?_) _ (0) (0) (sA 85 a (264) σ) (hw.put (by decide) (by decide) (fo_85 (by omega))) FrC.rfl (by omega) (by omega) (by omega) ⟨fun _ _ _ _ _ _ i hi => absurd hi (by omega), Or.inl ⟨by rw [q5]; omega, rfl, fun j hj => absurd hj (by omega)⟩⟩ (by rw [show z3 = n by omega]; exact (RWE.cg hrow (sA_k (by omega)))) rfl)
  show Tn _ _ 92 T σ8 [(0, .ref a), (1, .ref t), (3, .int (iI z3)), (4, .int (iI i46)), (5, .int (iI i57))] [] _
  refine tn_aload_n dX9_scan_92 rfl 0 rfl ?_
  refine tn_getI (ci := 9) (i := 4) (n := 85) (t := σ8.2.1 85 a) dX9_scan_93 rfl lay_9 (by decide) fl9_30 ha rfl rfl (rfl) ?_
  have g19 : ((-2147483648 : Int) ≤ σ8.2.1 85 a ∧ σ8.2.1 85 a ≤ 2147483647) := wf_85 w11 ha
  refine tn_sipush dX9_scan_96 (by decide) ?_
  refine tn_icmp_eq (tgt := 120) dX9_scan_99 (by decide) ⟨by omega, by omega⟩ ⟨by decide, by decide⟩ (fun h20 => ?_) (fun h20 => ?_)
  · refine tn_aload_n dX9_scan_120 rfl 0 rfl ?_
    refine tn_iconst dX9_scan_121 ?_
    refine tn_putV (ci := 9) (i := 3) (n := 84) (r := false) (v := -1) tyX9 tyX9_ok nmX9 dX9_scan_122 rfl lay_9 (by decide) fl9_45 rfl (tyX9_ok 3 (by decide)) rfl rfl rfl ha rfl rfl ?_
    refine tn_aload_n dX9_scan_125 rfl 0 rfl ?_
    have w21 := SCI.bd f16 (by omega)
    have w21t : TRW (sA 84 a (-1) σ8) a Sx (i46 - 1).toNat := w21.2.1.pt (by decide)
    have q22 : (sA 84 a (-1) σ8).2.1 84 a = -1 := ra_eq
    have q27 : (sA 84 a (-1) σ8).2.1 84 a = -1 := ra_eq
    refine tn_callV (M := m_X9_scan) (pc := 126) (ix := 48) (ci := 9) (M' := m_X9_next) (As := []) (rest := []) dX9_scan_126 ok_X9_next im_X9_next se_X9_next ml9_48 np_X9_next rfl rfl ha rfl (Nat.le_of_ble_eq_true rfl) (Nat.le_of_ble_eq_true rfl) rfl (k_X9_next_f0 (d + 1) (T := T) (σ := (sA 84 a (-1) σ8)) (a := a) ha (w11.put (by decide) (by decide) (fo_84 (by omega))) (fun q => absurd (q.symm.trans (ra_eq)) (by decide)) q22 w21t w21.2.2 (by omega)) (fun r23 T25 σ24 gt26 hp => ?_)
    obtain ⟨rfl, rfl, w33, F34, f28, f29, f30, f31⟩ := hp
    clear gt26
    show Tn _ _ 129 T σ24 [(0, .ref a), (1, .ref t), (3, .int (iI z3)), (4, .int (iI i46)), (5, .int (iI i57))] [] _
    exact tn_vret rfl dX9_scan_129 ⟨rfl, rfl, w33, ((((FrC.rfl.put (by decide) (by decide)).trans (FrC.sub F12 (by decide))).put (by decide) (by decide)).trans (FrC.sub F34 (by decide))), f28, ⟨_, f31⟩⟩
  · refine tn_aload_n dX9_scan_102 rfl 0 rfl ?_
    refine tn_sipush dX9_scan_103 (by decide) ?_
    refine tn_putV (ci := 9) (i := 4) (n := 85) (r := false) (v := 264) tyX9 tyX9_ok nmX9 dX9_scan_106 rfl lay_9 (by decide) fl9_30 rfl (tyX9_ok 4 (by decide)) rfl rfl rfl ha rfl rfl ?_
    refine tn_aload_n dX9_scan_109 rfl 0 rfl ?_
    refine tn_iload_n dX9_scan_110 rfl 2 rfl ?_
    refine tn_putV (ci := 9) (i := 6) (n := 87) (r := false) (v := z3) tyX9 tyX9_ok nmX9 dX9_scan_111 rfl lay_9 (by decide) fl9_34 rfl (tyX9_ok 6 (by decide)) rfl rfl rfl ha rfl rfl ?_
    refine tn_aload_n dX9_scan_114 rfl 0 rfl ?_
    refine tn_iload dX9_scan_115 3 rfl ?_
    have q39 : (sA 87 a (z3) (sA 85 a (264) σ8)).2.1 85 a = 264 := rc_o (by decide) (ra_eq)
    have q40 : (sA 87 a (z3) (sA 85 a (264) σ8)).2.1 86 a = σ8.2.1 86 a := rc_o (by decide) (rc_o (by decide) (rfl))
    have q41 : (sA 87 a (z3) (sA 85 a (264) σ8)).2.1 87 a = z3 := ra_eq
    refine tn_callV (M := m_X9_scan) (pc := 117) (ix := 41) (ci := 9) (M' := m_X9_keep) (As := [.int (iI i46)]) (rest := []) dX9_scan_117 ok_X9_keep im_X9_keep se_X9_keep ml9_41 np_X9_keep rfl rfl ha rfl (Nat.le_of_ble_eq_true rfl) (Nat.le_of_ble_eq_true rfl) rfl (k_X9_keep_f (d) (T := T) (σ := (sA 87 a (z3) (sA 85 a (264) σ8))) (a := a) (n := i46) ha (by omega) ((w11.put (by decide) (by decide) (fo_85 (by omega))).put (by decide) (by decide) (fo_87 (by omega))) (fun _ => Or.inr (Or.inr (rc_o (by decide) (ra_eq)))) (by omega)) (fun r35 T37 σ36 gt38 hp => ?_)
    obtain ⟨rfl, rfl, w44, F45, f42⟩ := hp
    clear gt38
    show Tn _ _ 120 T σ36 [(0, .ref a), (1, .ref t), (3, .int (iI z3)), (4, .int (iI i46)), (5, .int (iI i57))] [] _
    refine tn_aload_n dX9_scan_120 rfl 0 rfl ?_
    refine tn_iconst dX9_scan_121 ?_
    refine tn_putV (ci := 9) (i := 3) (n := 84) (r := false) (v := -1) tyX9 tyX9_ok nmX9 dX9_scan_122 rfl lay_9 (by decide) fl9_45 rfl (tyX9_ok 3 (by decide)) rfl rfl rfl ha rfl rfl ?_
    refine tn_aload_n dX9_scan_125 rfl 0 rfl ?_
    have w46F : FrC T [85, 87] σ8 (sA 87 a (z3) (sA 85 a (264) σ8)) := ((FrC.rfl.put (by decide) (by decide)).put (by decide) (by decide))
    have w46r := rowsT w11 ha w46F (by decide) (by decide) (by decide)
    have w46k : KPQ σ8 σ36 a (i46) 264 (σ8.2.1 86 a) (z3) := ⟨fun k hk i => by rw [f42.1 k (by rw [w46F.1 81 (Or.inl (by decide)) (by decide)]; exact hk) i, w46r k (Or.inl hk), show (sA 87 a (z3) (sA 85 a (264) σ8)).2.1 85 a = 264 from rc_o (by decide) ra_eq], fun k hk i => by rw [f42.2.1 k (by rw [w46F.1 82 (Or.inl (by decide)) (by decide)]; exact hk) i, w46r k (Or.inr (Or.inl hk))]; rfl, fun k hk i => by rw [f42.2.2 k (by rw [w46F.1 83 (Or.inl (by decide)) (by decide)]; exact hk) i, w46r k (Or.inr (Or.inr hk)), show (sA 87 a (z3) (sA 85 a (264) σ8)).2.1 87 a = z3 from ra_eq]⟩
    have w46f : ∀ k ∈ [81, 82, 83], σ36.2.1 k = σ8.2.1 k := fun k hk => (F45.1 k (Or.inl ((by decide : ∀ k ∈ [81, 82, 83], k < 200) k hk)) ((by decide : ∀ k ∈ [81, 82, 83], k ∉ [512, 522, 523]) k hk)).trans (w46F.1 k (Or.inl ((by decide : ∀ k ∈ [81, 82, 83], k < 200) k hk)) ((by decide : ∀ k ∈ [81, 82, 83], k ∉ [85, 87]) k hk))
    have w46e : i57 = z3 := by omega
    have w46 := SCI.en (by rw [w46e] at f16; exact f16) (by omega) (by omega) (by rw [hSx, svC_out (by omega)]; decide) w46f w46k
    have w46t : TRW (sA 84 a (-1) σ36) a Sx (i46).toNat := w46.1.pt (by decide)
    have q47 : (sA 84 a (-1) σ36).2.1 84 a = -1 := ra_eq
    have q52 : (sA 84 a (-1) σ36).2.1 84 a = -1 := ra_eq
    refine tn_callV (M := m_X9_scan) (pc := 126) (ix := 48) (ci := 9) (M' := m_X9_next) (As := []) (rest := []) dX9_scan_126 ok_X9_next im_X9_next se_X9_next ml9_48 np_X9_next rfl rfl ha rfl (Nat.le_of_ble_eq_true rfl) (Nat.le_of_ble_eq_true rfl) rfl (k_X9_next_f0 (d + 1) (T := T) (σ := (sA 84 a (-1) σ36)) (a := a) ha (w44.put (by decide) (by decide) (fo_84 (by omega))) (fun q => absurd (q.symm.trans (ra_eq)) (by decide)) q47 w46t w46.2 (by omega)) (fun r48 T50 σ49 gt51 hp => ?_)
    obtain ⟨rfl, rfl, w58, F59, f53, f54, f55, f56⟩ := hp
    clear gt51
    show Tn _ _ 129 T σ49 [(0, .ref a), (1, .ref t), (3, .int (iI z3)), (4, .int (iI i46)), (5, .int (iI i57))] [] _
    exact tn_vret rfl dX9_scan_129 ⟨rfl, rfl, w58, (((((((FrC.rfl.put (by decide) (by decide)).trans (FrC.sub F12 (by decide))).put (by decide) (by decide)).put (by decide) (by decide)).trans (FrC.sub F45 (by decide))).put (by decide) (by decide)).trans (FrC.sub F59 (by decide))), f53, ⟨_, f56⟩⟩
