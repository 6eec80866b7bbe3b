set_option maxHeartbeats 4000000 in
set_option maxRecDepth 20000 in
theorem l_X9_scanOne_f_8 (d : Nat) {T : CT} {σ0 : MS} {a : Nat} {rx1 : Nat} {c2 : Int} {c3 : Int} {fT : Int → Int} {Sx : Int → Int} {post : Option Value → CT → MS → Prop} (h_a : OB T a 9) (h_rx1 : (T rx1).1 = 2) (l_rx1 : (T rx1).2 ≤ 1000000) (r_c2 : 0 ≤ c2 ∧ c2 ≤ 1200) (r_c3 : 0 ≤ c3 ∧ c3 ≤ 1200) (hw0 : WT T σ0) (ht : (T rx1).2 = 1200) (hB : BYT fT) (hSx : Sx = svC fT c2) (hx_56 : ∀ (i4 : Int) (σ : MS) , (WT T σ) → (FrC T [86] σ0 σ) → (0 ≤ i4 ∧ i4 ≤ 1200) → (c3 ≤ i4 ∧ i4 ≤ c2) → (LTN Sx c3 i4) → (NUM9 Sx c3 i4 (σ.2.1 86 a)) → (RWE σ rx1 fT c2) → (¬ (97 ≤ Sx i4 ∧ Sx i4 ≤ 122)) → Tn (d + 2) m_X9_scanOne 56 T σ [(0, .ref a), (1, .ref rx1), (2, .int (iI c2)), (3, .int (iI c3)), (4, .int (iI i4))] [] post) : ∀ (n : Nat) (i4 : Int) (σ : MS) , (WT T σ) → (FrC T [86] σ0 σ) → (0 ≤ i4 ∧ i4 ≤ 1200) → (c3 ≤ i4 ∧ i4 ≤ c2) → (LTN Sx c3 i4) → (NUM9 Sx c3 i4 (σ.2.1 86 a)) → (RWE σ rx1 fT c2) → (2147483700 - i4).toNat = n → Tn (d + 2) m_X9_scanOne 8 T σ [(0, .ref a), (1, .ref rx1), (2, .int (iI c2)), (3, .int (iI c3)), (4, .int (iI i4))] [] post := by
  intro n
  induction n using Nat.strongRecOn with
  | _ n ih =>
    intro i4 σ hw hF r_i4 h0 hlt hnu hrow hm
    refine tn_iload dX9_scanOne_8 4 rfl ?_
    refine tn_iload_n dX9_scanOne_10 rfl 2 rfl ?_
    refine tn_icmp_ge (tgt := 56) dX9_scanOne_11 (by decide) ⟨by omega, by omega⟩ ⟨by omega, by omega⟩ (fun h1 => ?_) (fun h1 => ?_)
    · exact tn_sub [0, 1, 2, 3, 4] rfl (hx_56 (i4) σ hw (FrC.rfl.trans (FrC.sub hF (by decide))) (by omega) (by omega) hlt hnu hrow (not_let hSx hB (by omega)))
    · refine tn_aload_n dX9_scanOne_14 rfl 1 rfl ?_
      refine tn_iload dX9_scanOne_15 4 rfl ?_
      have g2 := hB (i4)
      refine tn_bald (z := i4) (v := fT (i4)) dX9_scanOne_17 h_rx1 (by omega) (by omega) (by omega) (hrow (i4) (by omega) (by omega)) ?_
      refine tn_bipush dX9_scanOne_18 (by decide) ?_
      refine tn_icmp_lt (tgt := 56) dX9_scanOne_20 (by decide) ⟨by omega, by omega⟩ ⟨by decide, by decide⟩ (fun h3 => ?_) (fun h3 => ?_)
      · exact tn_sub [0, 1, 2, 3, 4] rfl (hx_56 (i4) σ hw (FrC.rfl.trans (FrC.sub hF (by decide))) (by omega) (by omega) hlt hnu hrow (not_let hSx hB (by omega)))
      · refine tn_aload_n dX9_scanOne_23 rfl 1 rfl ?_
        refine tn_iload dX9_scanOne_24 4 rfl ?_
        have g4 := hB (i4)
        refine tn_bald (z := i4) (v := fT (i4)) dX9_scanOne_26 h_rx1 (by omega) (by omega) (by omega) (hrow (i4) (by omega) (by omega)) ?_
        refine tn_bipush dX9_scanOne_27 (by decide) ?_
        refine tn_icmp_gt (tgt := 56) dX9_scanOne_29 (by decide) ⟨by omega, by omega⟩ ⟨by decide, by decide⟩ (fun h5 => ?_) (fun h5 => ?_)
        · exact tn_sub [0, 1, 2, 3, 4] rfl (hx_56 (i4) σ hw (FrC.rfl.trans (FrC.sub hF (by decide))) (by omega) (by omega) hlt hnu hrow (not_let hSx hB (by omega)))
        · refine tn_aload_n dX9_scanOne_32 rfl 0 rfl ?_
          refine tn_aload_n dX9_scanOne_33 rfl 0 rfl ?_
          refine tn_getI (ci := 9) (i := 5) (n := 86) (t := σ.2.1 86 a) dX9_scanOne_34 rfl lay_9 (by decide) fl9_55 h_a rfl rfl (rfl) ?_
          have g6 : ((-2147483648 : Int) ≤ σ.2.1 86 a ∧ σ.2.1 86 a ≤ 2147483647) := wf_86 hw h_a
          refine tn_iconst dX9_scanOne_37 ?_
          refine tn_ishl dX9_scanOne_38 ?_
          refine tn_aload_n dX9_scanOne_39 rfl 1 rfl ?_
          refine tn_iload dX9_scanOne_40 4 rfl ?_
          have g7 := hB (i4)
          refine tn_bald (z := i4) (v := fT (i4)) dX9_scanOne_42 h_rx1 (by omega) (by omega) (by omega) (hrow (i4) (by omega) (by omega)) ?_
          refine tn_bipush dX9_scanOne_43 (by decide) ?_
          refine tn_isub dX9_scanOne_45 ?_
          refine tn_ior dX9_scanOne_46 ?_
          rw [← sh5_i]
          have g8 := sh5_r (σ.2.1 86 a) ((fT (i4)) - 96)
          refine tn_putV (ci := 9) (i := 5) (n := 86) (r := false) (v := sh5 (σ.2.1 86 a) ((fT (i4)) - 96)) tyX9 tyX9_ok nmX9 dX9_scanOne_47 rfl lay_9 (by decide) fl9_55 rfl (tyX9_ok 5 (by decide)) rfl rfl rfl h_a rfl rfl ?_
          refine tn_iinc (q0 := 4) (L' := [(4, .int (iI (i4 + 1))), (0, .ref a), (1, .ref rx1), (2, .int (iI c2)), (3, .int (iI c3))]) dX9_scanOne_50 rfl (by decide) rfl ?_
          refine tn_goto (tgt := 8) dX9_scanOne_53 (by decide) ?_
          have q9 : 97 ≤ Sx i4 ∧ Sx i4 ≤ 122 := by rw [hSx]; exact (svC_eq hB (by omega) (by decide) (by decide)).mpr ⟨by omega, by omega⟩
          have q9e : Sx i4 = fT (i4) := is_byte hSx (by omega) (by omega)
          have q10 : (sA 86 a (sh5 (σ.2.1 86 a) ((fT (i4)) - 96)) σ).2.1 86 a = sh5 (σ.2.1 86 a) ((fT (i4)) - 96) := ra_eq
          exact tn_sub [1, 2, 3, 4, 0] rfl (ih _ (by omega) (i4 + 1) (sA 86 a (sh5 (σ.2.1 86 a) ((fT (i4)) - 96)) σ) (hw.put (by decide) (by decide) (fo_86 (by omega))) ((FrC.rfl.trans (FrC.sub hF (by decide))).put (by decide) (by decide)) (by omega) (by omega) (hlt.up (by omega) q9) (by rw [q10]; have w9 := NUM9.up hnu hlt (by omega) q9; rw [q9e] at w9; exact w9) (RWE.cg hrow (sA_k (by omega))) rfl)
set_option maxHeartbeats 4000000 in
set_option maxRecDepth 20000 in
theorem l_X9_scanOne_f_88 (d : Nat) {T : CT} {σ0 : MS} {a : Nat} {rx1 : Nat} {c2 : Int} {c3 : Int} {fT : Int → Int} {Sx : Int → Int} {post : Option Value → CT → MS → Prop} (h_a : OB T a 9) (h_rx1 : (T rx1).1 = 2) (l_rx1 : (T rx1).2 ≤ 1000000) (r_c2 : 0 ≤ c2 ∧ c2 ≤ 1200) (r_c3 : 0 ≤ c3 ∧ c3 ≤ 1200) (hw0 : WT T σ0) (ht : (T rx1).2 = 1200) (hB : BYT fT) (hSx : Sx = svC fT c2) (hx_137 : ∀ (i4 : Int) (σ : MS) , (WT T σ) → (FrC T [86] σ0 σ) → (0 ≤ i4 ∧ i4 ≤ 1200) → (c3 ≤ i4 ∧ i4 ≤ c2) → (DGN Sx c3 i4) → (RWE σ rx1 fT c2) → (¬ (48 ≤ Sx i4 ∧ Sx i4 ≤ 57)) → Tn (d + 2) m_X9_scanOne 137 T σ [(0, .ref a), (1, .ref rx1), (2, .int (iI c2)), (3, .int (iI c3)), (4, .int (iI i4))] [] post) : ∀ (n : Nat) (i4 : Int) (σ : MS) , (WT T σ) → (FrC T [86] σ0 σ) → (0 ≤ i4 ∧ i4 ≤ 1200) → (c3 ≤ i4 ∧ i4 ≤ c2) → (DGN Sx c3 i4) → (RWE σ rx1 fT c2) → (2147483700 - i4).toNat = n → Tn (d + 2) m_X9_scanOne 88 T σ [(0, .ref a), (1, .ref rx1), (2, .int (iI c2)), (3, .int (iI c3)), (4, .int (iI i4))] [] post := by
  intro n
  induction n using Nat.strongRecOn with
  | _ n ih =>
    intro i4 σ hw hF r_i4 h0 hdg hrow hm
    refine tn_iload dX9_scanOne_88 4 rfl ?_
    refine tn_iload_n dX9_scanOne_90 rfl 2 rfl ?_
    refine tn_icmp_ge (tgt := 137) dX9_scanOne_91 (by decide) ⟨by omega, by omega⟩ ⟨by omega, by omega⟩ (fun h1 => ?_) (fun h1 => ?_)
    · exact tn_sub [0, 1, 2, 3, 4] rfl (hx_137 (i4) σ hw (FrC.rfl.trans (FrC.sub hF (by decide))) (by omega) (by omega) hdg hrow (not_dig hSx hB (by omega)))
    · refine tn_aload_n dX9_scanOne_94 rfl 1 rfl ?_
      refine tn_iload dX9_scanOne_95 4 rfl ?_
      have g2 := hB (i4)
      refine tn_bald (z := i4) (v := fT (i4)) dX9_scanOne_97 h_rx1 (by omega) (by omega) (by omega) (hrow (i4) (by omega) (by omega)) ?_
      refine tn_bipush dX9_scanOne_98 (by decide) ?_
      refine tn_icmp_lt (tgt := 137) dX9_scanOne_100 (by decide) ⟨by omega, by omega⟩ ⟨by decide, by decide⟩ (fun h3 => ?_) (fun h3 => ?_)
      · exact tn_sub [0, 1, 2, 3, 4] rfl (hx_137 (i4) σ hw (FrC.rfl.trans (FrC.sub hF (by decide))) (by omega) (by omega) hdg hrow (not_dig hSx hB (by omega)))
      · refine tn_aload_n dX9_scanOne_103 rfl 1 rfl ?_
        refine tn_iload dX9_scanOne_104 4 rfl ?_
        have g4 := hB (i4)
        refine tn_bald (z := i4) (v := fT (i4)) dX9_scanOne_106 h_rx1 (by omega) (by omega) (by omega) (hrow (i4) (by omega) (by omega)) ?_
        refine tn_bipush dX9_scanOne_107 (by decide) ?_
        refine tn_icmp_gt (tgt := 137) dX9_scanOne_109 (by decide) ⟨by omega, by omega⟩ ⟨by decide, by decide⟩ (fun h5 => ?_) (fun h5 => ?_)
        · exact tn_sub [0, 1, 2, 3, 4] rfl (hx_137 (i4) σ hw (FrC.rfl.trans (FrC.sub hF (by decide))) (by omega) (by omega) hdg hrow (not_dig hSx hB (by omega)))
        · refine tn_aload_n dX9_scanOne_112 rfl 0 rfl ?_
          refine tn_aload_n dX9_scanOne_113 rfl 0 rfl ?_
          refine tn_getI (ci := 9) (i := 5) (n := 86) (t := σ.2.1 86 a) dX9_scanOne_114 rfl lay_9 (by decide) fl9_55 h_a rfl rfl (rfl) ?_
          have g6 : ((-2147483648 : Int) ≤ σ.2.1 86 a ∧ σ.2.1 86 a ≤ 2147483647) := wf_86 hw h_a
          refine tn_bipush dX9_scanOne_117 (by decide) ?_
          refine tn_imul dX9_scanOne_119 ?_
          refine tn_any (fun z7 g8 => ?_)
          have g8r : -2147483648 ≤ z7 ∧ z7 ≤ 2147483647 := g8
          refine tn_aload_n dX9_scanOne_120 rfl 1 rfl ?_
          refine tn_iload dX9_scanOne_121 4 rfl ?_
          have g9 := hB (i4)
          refine tn_bald (z := i4) (v := fT (i4)) dX9_scanOne_123 h_rx1 (by omega) (by omega) (by omega) (hrow (i4) (by omega) (by omega)) ?_
          refine tn_bipush dX9_scanOne_124 (by decide) ?_
          refine tn_isub dX9_scanOne_126 ?_
          refine tn_iadd dX9_scanOne_127 ?_
          refine tn_any (fun z10 g11 => ?_)
          have g11r : -2147483648 ≤ z10 ∧ z10 ≤ 2147483647 := g11
          refine tn_putV (ci := 9) (i := 5) (n := 86) (r := false) (v := z10) tyX9 tyX9_ok nmX9 dX9_scanOne_128 rfl lay_9 (by decide) fl9_55 rfl (tyX9_ok 5 (by decide)) rfl rfl rfl h_a rfl rfl ?_
          refine tn_iinc (q0 := 4) (L' := [(4, .int (iI (i4 + 1))), (0, .ref a), (1, .ref rx1), (2, .int (iI c2)), (3, .int (iI c3))]) dX9_scanOne_131 rfl (by decide) rfl ?_
          refine tn_goto (tgt := 88) dX9_scanOne_134 (by decide) ?_
          have q12 : 48 ≤ Sx i4 ∧ Sx i4 ≤ 57 := by rw [hSx]; exact (svC_eq hB (by omega) (by decide) (by decide)).mpr ⟨by omega, by omega⟩
          exact tn_sub [1, 2, 3, 4, 0] rfl (ih _ (by omega) (i4 + 1) (sA 86 a (z10) σ) (hw.put (by decide) (by decide) (fo_86 (by omega))) ((FrC.rfl.trans (FrC.sub hF (by decide))).put (by decide) (by decide)) (by omega) (by omega) (hdg.up (by omega) q12) (RWE.cg hrow (sA_k (by omega))) rfl)
set_option maxHeartbeats 4000000 in
set_option maxRecDepth 20000 in
theorem k_X9_scanOne_f (d : Nat) {T : CT} {σ : MS} {a : Nat} {t : Nat} {l : Int} {i : Int} {fT Sx : Int → Int} (ha : OB T a 9) (h_t : (T t).1 = 2) (l_t : (T t).2 ≤ 1000000) (h_l : -2147483648 ≤ l ∧ l ≤ 2147483647) (h_i : -2147483648 ≤ i ∧ i ≤ 2147483647) (hw : WT T σ) (hi : 0 ≤ i ∧ i < l ∧ l ≤ 1200) (ht : (T t).2 = 1200) (hfT : RWE σ t fT l) (hB : BYT fT) (hSx : Sx = svC fT l) : Tn (d + 2) m_X9_scanOne 0 T σ [(0, .ref a), (1, .ref t), (2, .int (iI l)), (3, .int (iI i))] [] (fun ro T2 σ2 => ∃ v : Int, ro = some (.int (iI v)) ∧ T = T2 ∧ WT T2 σ2 ∧ FrC T [85, 86] σ σ2 ∧ (-2147483648 ≤ v ∧ v ≤ 2147483647) ∧ (i < v ∧ v ≤ l) ∧ (SOQ Sx i v (σ2.2.1 85 a) (σ2.2.1 86 a))) := by
  have hrow := hfT
  refine tn_iload_n dX9_scanOne_0 rfl 3 rfl ?_
  refine tn_istore (L' := [(4, .int (iI i)), (0, .ref a), (1, .ref t), (2, .int (iI l)), (3, .int (iI i))]) dX9_scanOne_1 (by decide) rfl ?_
  refine tn_aload_n dX9_scanOne_3 rfl 1 rfl ?_
  refine tn_iconst dX9_scanOne_4 ?_
  refine tn_putV (ci := 9) (i := 5) (n := 86) (r := false) (v := 0) tyX9 tyX9_ok nmX9 dX9_scanOne_5 rfl lay_9 (by decide) fl9_55 rfl (tyX9_ok 5 (by decide)) rfl rfl rfl ha rfl rfl ?_
  have q1 : (sA 86 a (0) σ).2.1 86 a = 0 := ra_eq
  refine tn_sub [1, 2, 3, 4, 0] rfl (l_X9_scanOne_f_8 (d) (T := T) (σ0 := (sA 86 a (0) σ)) (a := a) (rx1 := t) (c2 := l) (c3 := i) (fT := fT) (Sx := Sx) ha h_t (by omega) (by omega) (by omega) (hw.put (by decide) (by decide) (fo_86 (by omega))) ht hB hSx (fun i42 σ3 w6 F7 r8 f9 f10 f11 f12 f13 => ?_) _ (i) (sA 86 a (0) σ) (hw.put (by decide) (by decide) (fo_86 (by omega))) FrC.rfl (by omega) (by omega) (fun j hj => absurd hj (by omega)) (fun _ => by rw [q1, show (i - i).toNat = 0 by omega]; rfl) (RWE.cg hrow (sA_k (by omega))) rfl)
  show Tn _ _ 56 T σ3 [(0, .ref a), (1, .ref t), (2, .int (iI l)), (3, .int (iI i)), (4, .int (iI i42))] [] _
  refine tn_iload dX9_scanOne_56 4 rfl ?_
  refine tn_iload_n dX9_scanOne_58 rfl 3 rfl ?_
  refine tn_icmp_le (tgt := 88) dX9_scanOne_59 (by decide) ⟨by omega, by omega⟩ ⟨by omega, by omega⟩ (fun h14 => ?_) (fun h14 => ?_)
  · refine tn_sub [0, 1, 2, 3, 4] rfl (l_X9_scanOne_f_88 (d) (T := T) (σ0 := σ3) (a := a) (rx1 := t) (c2 := l) (c3 := i) (fT := fT) (Sx := Sx) ha h_t (by omega) (by omega) (by omega) w6 ht hB hSx (fun i415 σ16 w19 F20 r21 f22 f23 f24 f25 => ?_) _ (i42) σ3 w6 FrC.rfl (by omega) (by omega) (fun j hj => absurd hj (by omega)) (RWE.cg (RWE.cg hrow (sA_k (by omega))) (F7.2 t (by rw [h_t]; unfold HT; omega) (by rw [h_t]; decide))) rfl)
    show Tn _ _ 137 T σ16 [(0, .ref a), (1, .ref t), (2, .int (iI l)), (3, .int (iI i)), (4, .int (iI i415))] [] _
    refine tn_iload dX9_scanOne_137 4 rfl ?_
    refine tn_iload_n dX9_scanOne_139 rfl 3 rfl ?_
    refine tn_icmp_le (tgt := 168) dX9_scanOne_140 (by decide) ⟨by omega, by omega⟩ ⟨by omega, by omega⟩ (fun h26 => ?_) (fun h26 => ?_)
    · refine tn_aload_n dX9_scanOne_168 rfl 0 rfl ?_
      refine tn_aload_n dX9_scanOne_169 rfl 1 rfl ?_
      refine tn_iload_n dX9_scanOne_170 rfl 3 rfl ?_
      have g27 := hB (i)
      refine tn_bald (z := i) (v := fT (i)) dX9_scanOne_171 h_t (by omega) (by omega) (by omega) ((RWE.cg (RWE.cg (RWE.cg hrow (sA_k (by omega))) (F7.2 t (by rw [h_t]; unfold HT; omega) (by rw [h_t]; decide))) (F20.2 t (by rw [h_t]; unfold HT; omega) (by rw [h_t]; decide))) (i) (by omega) (by omega)) ?_
      refine tn_callS (M := m_X9_scanOne) (pc := 172) (ix := 62) (M' := m_X9_isSign) (As := [.int (iI (fT (i)))]) (rest := [.ref a]) dX9_scanOne_172 ok_X9_isSign stt_X9_isSign ml9_62 np_X9_isSign rfl (Nat.le_of_ble_eq_true rfl) (Nat.le_of_ble_eq_true rfl) rfl (k_X9_isSign_f (d) (T := T) (σ := σ16) (o := fT (i)) (by omega) w19 ) (fun r28 T30 σ29 gt31 hp => ?_)
      obtain ⟨v34, rfl, rfl, rfl, f32, f33⟩ := hp
      clear gt31
      show Tn _ _ 175 T σ16 [(0, .ref a), (1, .ref t), (2, .int (iI l)), (3, .int (iI i)), (4, .int (iI i415))] [.int (iI v34), .ref a] _
      refine tn_if_eq (tgt := 184) dX9_scanOne_175 (by decide) ⟨by omega, by omega⟩ (fun h35 => ?_) (fun h35 => ?_)
      · refine tn_sipush dX9_scanOne_184 (by decide) ?_
        refine tn_putV (ci := 9) (i := 4) (n := 85) (r := false) (v := 263) tyX9 tyX9_ok nmX9 dX9_scanOne_187 rfl lay_9 (by decide) fl9_30 rfl (tyX9_ok 4 (by decide)) rfl rfl rfl ha rfl rfl ?_
        refine tn_iload_n dX9_scanOne_190 rfl 3 rfl ?_
        refine tn_iconst dX9_scanOne_191 ?_
        refine tn_iadd dX9_scanOne_192 ?_
        have q36 : (sA 85 a (263) σ16).2.1 85 a = 263 := ra_eq
        have q37 : (sA 85 a (263) σ16).2.1 86 a = σ16.2.1 86 a := rc_o (by decide) (rfl)
        have w38a : ¬ (97 ≤ svC fT l i ∧ svC fT l i ≤ 122) := by rw [← hSx, show i = i42 by omega]; exact f13
        have w38b : ¬ (48 ≤ svC fT l i ∧ svC fT l i ≤ 57) := by rw [← hSx, show i = i415 by omega]; exact f25
        have w38 := (so_sg2 (x := σ16.2.1 86 a) hB (by omega) w38a w38b f33).2 (by omega)
        exact tn_iret rfl dX9_scanOne_193 ⟨_, rfl, rfl, (w19.put (by decide) (by decide) (fo_85 (by omega))), ((((FrC.rfl.put (by decide) (by decide)).trans (FrC.sub F7 (by decide))).trans (FrC.sub F20 (by decide))).put (by decide) (by decide)), by omega, by omega, by rw [q36, q37, hSx]; exact w38⟩
      · refine tn_aload_n dX9_scanOne_178 rfl 1 rfl ?_
        refine tn_iload_n dX9_scanOne_179 rfl 3 rfl ?_
        have g39 := hB (i)
        refine tn_bald (z := i) (v := fT (i)) dX9_scanOne_180 h_t (by omega) (by omega) (by omega) ((RWE.cg (RWE.cg (RWE.cg hrow (sA_k (by omega))) (F7.2 t (by rw [h_t]; unfold HT; omega) (by rw [h_t]; decide))) (F20.2 t (by rw [h_t]; unfold HT; omega) (by rw [h_t]; decide))) (i) (by omega) (by omega)) ?_
        refine tn_goto (tgt := 187) dX9_scanOne_181 (by decide) ?_
        refine tn_putV (ci := 9) (i := 4) (n := 85) (r := false) (v := fT (i)) tyX9 tyX9_ok nmX9 dX9_scanOne_187 rfl lay_9 (by decide) fl9_30 rfl (tyX9_ok 4 (by decide)) rfl rfl rfl ha rfl rfl ?_
        refine tn_iload_n dX9_scanOne_190 rfl 3 rfl ?_
        refine tn_iconst dX9_scanOne_191 ?_
        refine tn_iadd dX9_scanOne_192 ?_
        have q40 : (sA 85 a (fT (i)) σ16).2.1 85 a = fT (i) := ra_eq
        have q41 : (sA 85 a (fT (i)) σ16).2.1 86 a = σ16.2.1 86 a := rc_o (by decide) (rfl)
        have w42a : ¬ (97 ≤ svC fT l i ∧ svC fT l i ≤ 122) := by rw [← hSx, show i = i42 by omega]; exact f13
        have w42b : ¬ (48 ≤ svC fT l i ∧ svC fT l i ≤ 57) := by rw [← hSx, show i = i415 by omega]; exact f25
        have w42 := (so_sg2 (x := σ16.2.1 86 a) hB (by omega) w42a w42b f33).1 (by omega)
        exact tn_iret rfl dX9_scanOne_193 ⟨_, rfl, rfl, (w19.put (by decide) (by decide) (fo_85 (by omega))), ((((FrC.rfl.put (by decide) (by decide)).trans (FrC.sub F7 (by decide))).trans (FrC.sub F20 (by decide))).put (by decide) (by decide)), by omega, by omega, by rw [q40, q41, hSx]; exact w42⟩
    · refine tn_aload_n dX9_scanOne_143 rfl 0 rfl ?_
      refine tn_iload dX9_scanOne_144 4 rfl ?_
      refine tn_iload_n dX9_scanOne_146 rfl 3 rfl ?_
      refine tn_isub dX9_scanOne_147 ?_
      refine tn_bipush dX9_scanOne_148 (by decide) ?_
      refine tn_icmp_le (tgt := 159) dX9_scanOne_150 (by decide) ⟨by omega, by omega⟩ ⟨by decide, by decide⟩ (fun h43 => ?_) (fun h43 => ?_)
      · refine tn_sipush dX9_scanOne_159 (by decide) ?_
        refine tn_putV (ci := 9) (i := 4) (n := 85) (r := false) (v := 257) tyX9 tyX9_ok nmX9 dX9_scanOne_162 rfl lay_9 (by decide) fl9_30 rfl (tyX9_ok 4 (by decide)) rfl rfl rfl ha rfl rfl ?_
        refine tn_iload dX9_scanOne_165 4 rfl ?_
        have q44 : (sA 85 a (257) σ16).2.1 85 a = 257 := ra_eq
        have q45 : (sA 85 a (257) σ16).2.1 86 a = σ16.2.1 86 a := rc_o (by decide) (rfl)
        have w46 := (so_dig (x := σ16.2.1 86 a) (by omega) (by omega) f23 f25).1 (by omega)
        exact tn_iret rfl dX9_scanOne_167 ⟨_, rfl, rfl, (w19.put (by decide) (by decide) (fo_85 (by omega))), ((((FrC.rfl.put (by decide) (by decide)).trans (FrC.sub F7 (by decide))).trans (FrC.sub F20 (by decide))).put (by decide) (by decide)), by omega, by omega, by rw [q44, q45]; exact w46⟩
      · refine tn_sipush dX9_scanOne_153 (by decide) ?_
        refine tn_goto (tgt := 162) dX9_scanOne_156 (by decide) ?_
        refine tn_putV (ci := 9) (i := 4) (n := 85) (r := false) (v := 263) tyX9 tyX9_ok nmX9 dX9_scanOne_162 rfl lay_9 (by decide) fl9_30 rfl (tyX9_ok 4 (by decide)) rfl rfl rfl ha rfl rfl ?_
        refine tn_iload dX9_scanOne_165 4 rfl ?_
        have q47 : (sA 85 a (263) σ16).2.1 85 a = 263 := ra_eq
        have q48 : (sA 85 a (263) σ16).2.1 86 a = σ16.2.1 86 a := rc_o (by decide) (rfl)
        have w49 := (so_dig (x := σ16.2.1 86 a) (by omega) (by omega) f23 f25).2 (by omega)
        exact tn_iret rfl dX9_scanOne_167 ⟨_, rfl, rfl, (w19.put (by decide) (by decide) (fo_85 (by omega))), ((((FrC.rfl.put (by decide) (by decide)).trans (FrC.sub F7 (by decide))).trans (FrC.sub F20 (by decide))).put (by decide) (by decide)), by omega, by omega, by rw [q47, q48]; exact w49⟩
  · refine tn_aload_n dX9_scanOne_62 rfl 0 rfl ?_
    refine tn_iload dX9_scanOne_63 4 rfl ?_
    refine tn_iload_n dX9_scanOne_65 rfl 3 rfl ?_
    refine tn_isub dX9_scanOne_66 ?_
    refine tn_bipush dX9_scanOne_67 (by decide) ?_
    refine tn_icmp_le (tgt := 78) dX9_scanOne_69 (by decide) ⟨by omega, by omega⟩ ⟨by decide, by decide⟩ (fun h50 => ?_) (fun h50 => ?_)
    · refine tn_aload_n dX9_scanOne_78 rfl 0 rfl ?_
      refine tn_callV (M := m_X9_scanOne) (pc := 79) (ix := 58) (ci := 9) (M' := m_X9_wordKind) (As := []) (rest := [.ref a]) dX9_scanOne_79 ok_X9_wordKind im_X9_wordKind se_X9_wordKind ml9_58 np_X9_wordKind rfl rfl ha rfl (Nat.le_of_ble_eq_true rfl) (Nat.le_of_ble_eq_true rfl) rfl (k_X9_wordKind_f (d) (T := T) (σ := σ3) (a := a) ha w6 ) (fun r51 T53 σ52 gt54 hp => ?_)
      obtain ⟨v57, rfl, rfl, rfl, f55, f56⟩ := hp
      clear gt54
      show Tn _ _ 82 T σ3 [(0, .ref a), (1, .ref t), (2, .int (iI l)), (3, .int (iI i)), (4, .int (iI i42))] [.int (iI v57), .ref a] _
      refine tn_putV (ci := 9) (i := 4) (n := 85) (r := false) (v := v57) tyX9 tyX9_ok nmX9 dX9_scanOne_82 rfl lay_9 (by decide) fl9_30 rfl (tyX9_ok 4 (by decide)) rfl rfl rfl ha rfl rfl ?_
      refine tn_iload dX9_scanOne_85 4 rfl ?_
      have q58 : (sA 85 a (v57) σ3).2.1 85 a = v57 := ra_eq
      have q59 : (sA 85 a (v57) σ3).2.1 86 a = σ3.2.1 86 a := rc_o (by decide) (rfl)
      have w60 := (so_let (by omega) (by omega) f10 f11 f13).1 (by omega)
      exact tn_iret rfl dX9_scanOne_87 ⟨_, rfl, rfl, (w6.put (by decide) (by decide) (fo_85 (by omega))), (((FrC.rfl.put (by decide) (by decide)).trans (FrC.sub F7 (by decide))).put (by decide) (by decide)), by omega, by omega, by rw [q58, q59, f56]; exact w60⟩
    · refine tn_sipush dX9_scanOne_72 (by decide) ?_
      refine tn_goto (tgt := 82) dX9_scanOne_75 (by decide) ?_
      refine tn_putV (ci := 9) (i := 4) (n := 85) (r := false) (v := 263) tyX9 tyX9_ok nmX9 dX9_scanOne_82 rfl lay_9 (by decide) fl9_30 rfl (tyX9_ok 4 (by decide)) rfl rfl rfl ha rfl rfl ?_
      refine tn_iload dX9_scanOne_85 4 rfl ?_
      have q61 : (sA 85 a (263) σ3).2.1 85 a = 263 := ra_eq
      have q62 : (sA 85 a (263) σ3).2.1 86 a = σ3.2.1 86 a := rc_o (by decide) (rfl)
      have w63 := (so_let (by omega) (by omega) f10 f11 f13).2 (by omega)
      exact tn_iret rfl dX9_scanOne_87 ⟨_, rfl, rfl, (w6.put (by decide) (by decide) (fo_85 (by omega))), (((FrC.rfl.put (by decide) (by decide)).trans (FrC.sub F7 (by decide))).put (by decide) (by decide)), by omega, by omega, by rw [q61, q62]; exact w63⟩
