set_option maxHeartbeats 4000000 in
set_option maxRecDepth 20000 in
theorem l_X5_settleCalls_f_2 (d : Nat) {T : CT} {σ0 : MS} {a : Nat} {Sx : Int → Int} {nx : Nat} {jx : Nat} {cx : CS} {post : Option Value → CT → MS → Prop} (h_a : OB T a 5) (hw0 : WT T σ0) (e42 : σ0.2.1 42 a = cx.cn) (e38 : σ0.2.1 38 a = cx.rn) (b42 : 0 ≤ cx.cn ∧ cx.cn ≤ 256) (b38 : 0 ≤ cx.rn ∧ cx.rn ≤ 256) (hx_82 : ∀ (i1 : Int) (σ : MS) , (WT T σ) → (FrC T [43, 44] σ0 σ) → (0 ≤ i1 ∧ i1 ≤ 256) → (0 ≤ i1 ∧ i1 ≤ cx.cn) → (RD0 σ a Sx nx jx (fpC (cnts (cSs cx (i1).toNat) cx.fp) cx)) → (cx.cn ≤ i1) → Tn (d + 3) m_X5_settleCalls 82 T σ [(0, .ref a), (1, .int (iI i1))] [] post) : ∀ (n : Nat) (i1 : Int) (σ : MS) , (WT T σ) → (FrC T [43, 44] σ0 σ) → (0 ≤ i1 ∧ i1 ≤ 256) → (0 ≤ i1 ∧ i1 ≤ cx.cn) → (RD0 σ a Sx nx jx (fpC (cnts (cSs cx (i1).toNat) cx.fp) cx)) → (2147483700 - i1).toNat = n → Tn (d + 3) m_X5_settleCalls 2 T σ [(0, .ref a), (1, .int (iI i1))] [] post := by
  intro n
  induction n using Nat.strongRecOn with
  | _ n ih =>
    intro i1 σ hw hF r_i1 h0 hst hm
    refine tn_iload_n dX5_settleCalls_2 rfl 1 rfl ?_
    refine tn_aload_n dX5_settleCalls_3 rfl 0 rfl ?_
    refine tn_getI (ci := 5) (i := 9) (n := 42) (t := σ0.2.1 42 a) dX5_settleCalls_4 rfl lay_5 (by decide) fl5_61 h_a rfl rfl (rc_F hF (Or.inl (by decide)) (by decide) (rfl)) ?_
    have g1 : ((0 : Int) ≤ σ0.2.1 42 a ∧ σ0.2.1 42 a ≤ 256) := wf_42 hw0 h_a
    refine tn_icmp_ge (tgt := 82) dX5_settleCalls_7 (by decide) ⟨by omega, by omega⟩ ⟨by omega, by omega⟩ (fun h2 => ?_) (fun h2 => ?_)
    · exact tn_sub [0, 1] rfl (hx_82 (i1) σ hw (FrC.rfl.trans (FrC.sub hF (by decide))) (by omega) (by omega) hst (by omega))
    · refine tn_aload_n dX5_settleCalls_10 rfl 0 rfl ?_
      refine tn_aload_n dX5_settleCalls_11 rfl 0 rfl ?_
      obtain ⟨x3, hx4, hk5, hl6⟩ : ∃ x : Nat, σ0.2.1 39 a = (x : Int) ∧ AR T x 18 256 256 := wf_39 hw0 h_a
      have hk5i : IA T x3 := by unfold IA; omega
      refine tn_getR (ci := 5) (i := 6) (n := 39) (x := x3) dX5_settleCalls_12 rfl lay_5 (by decide) fl5_31 h_a rfl rfl (rc_F hF (Or.inl (by decide)) (by decide) (hx4)) ?_
      refine tn_iload_n dX5_settleCalls_15 rfl 1 rfl ?_
      refine tn_callSN (M := m_X5_settleCalls) (pc := 16) (ix := 231) (M' := m_X11_at) (As := [.ref x3, .int (iI i1)]) (rest := [.ref a]) dX5_settleCalls_16 ok_X11_at stt_X11_at nl5_231 np_X11_at rfl (Nat.le_of_ble_eq_true rfl) (Nat.le_of_ble_eq_true rfl) rfl (k_X11_at (d + 1) (T := T) (σ := σ) (x := x3) (i := i1) hk5i (by omega) (by omega) hw ) (fun r7 T9 σ8 gt10 hp => ?_)
      obtain ⟨v14, rfl, rfl, rfl, f11, f12, f13⟩ := hp
      clear gt10
      show Tn _ _ 19 T σ [(0, .ref a), (1, .int (iI i1))] [.int (iI v14), .ref a] _
      refine tn_callV (M := m_X5_settleCalls) (pc := 19) (ix := 109) (ci := 5) (M' := m_X5_routineOf) (As := [.int (iI v14)]) (rest := []) dX5_settleCalls_19 ok_X5_routineOf im_X5_routineOf se_X5_routineOf ml5_109 np_X5_routineOf rfl rfl h_a rfl (Nat.le_of_ble_eq_true rfl) (Nat.le_of_ble_eq_true rfl) rfl (k_X5_routineOf_f (d) (T := T) (σ := σ) (a := a) (k := v14) h_a (by omega) hw ) (fun r15 T17 σ16 gt18 hp => ?_)
      obtain ⟨v21, rfl, rfl, rfl, f19, f20⟩ := hp
      clear gt18
      show Tn _ _ 22 T σ [(0, .ref a), (1, .int (iI i1))] [.int (iI v21)] _
      refine tn_istore_n (L' := [(2, .int (iI v21)), (0, .ref a), (1, .int (iI i1))]) dX5_settleCalls_22 rfl (by decide) rfl ?_
      refine tn_iload_n dX5_settleCalls_23 rfl 0 rfl ?_
      refine tn_iconst dX5_settleCalls_24 ?_
      refine tn_icmp_ne (tgt := 44) dX5_settleCalls_25 (by decide) ⟨by omega, by omega⟩ ⟨by decide, by decide⟩ (fun h22 => ?_) (fun h22 => ?_)
      · refine tn_aload_n dX5_settleCalls_44 rfl 1 rfl ?_
        obtain ⟨x23, hx24, hk25, hl26⟩ : ∃ x : Nat, σ0.2.1 37 a = (x : Int) ∧ AR T x 17 256 256 := wf_37 hw0 h_a
        have hk25i : IA T x23 := by unfold IA; omega
        refine tn_getR (ci := 5) (i := 4) (n := 37) (x := x23) dX5_settleCalls_45 rfl lay_5 (by decide) fl5_28 h_a rfl rfl (rc_F hF (Or.inl (by decide)) (by decide) (hx24)) ?_
        refine tn_iload_n dX5_settleCalls_48 rfl 0 rfl ?_
        refine tn_callSN (M := m_X5_settleCalls) (pc := 49) (ix := 231) (M' := m_X11_at) (As := [.ref x23, .int (iI v21)]) (rest := []) dX5_settleCalls_49 ok_X11_at stt_X11_at nl5_231 np_X11_at rfl (Nat.le_of_ble_eq_true rfl) (Nat.le_of_ble_eq_true rfl) rfl (k_X11_at (d + 1) (T := T) (σ := σ) (x := x23) (i := v21) hk25i (by omega) (by omega) hw ) (fun r27 T29 σ28 gt30 hp => ?_)
        obtain ⟨v34, rfl, rfl, rfl, f31, f32, f33⟩ := hp
        clear gt30
        show Tn _ _ 52 T σ [(2, .int (iI v21)), (0, .ref a), (1, .int (iI i1))] [.int (iI v34)] _
        refine tn_aload_n dX5_settleCalls_52 rfl 1 rfl ?_
        obtain ⟨x35, hx36, hk37, hl38⟩ : ∃ x : Nat, σ0.2.1 41 a = (x : Int) ∧ AR T x 20 256 256 := wf_41 hw0 h_a
        have hk37i : IA T x35 := by unfold IA; omega
        refine tn_getR (ci := 5) (i := 8) (n := 41) (x := x35) dX5_settleCalls_53 rfl lay_5 (by decide) fl5_37 h_a rfl rfl (rc_F hF (Or.inl (by decide)) (by decide) (hx36)) ?_
        refine tn_iload_n dX5_settleCalls_56 rfl 2 rfl ?_
        refine tn_callSN (M := m_X5_settleCalls) (pc := 57) (ix := 231) (M' := m_X11_at) (As := [.ref x35, .int (iI i1)]) (rest := [.int (iI v34)]) dX5_settleCalls_57 ok_X11_at stt_X11_at nl5_231 np_X11_at rfl (Nat.le_of_ble_eq_true rfl) (Nat.le_of_ble_eq_true rfl) rfl (k_X11_at (d + 1) (T := T) (σ := σ) (x := x35) (i := i1) hk37i (by omega) (by omega) hw ) (fun r39 T41 σ40 gt42 hp => ?_)
        obtain ⟨v46, rfl, rfl, rfl, f43, f44, f45⟩ := hp
        clear gt42
        show Tn _ _ 60 T σ [(2, .int (iI v21)), (0, .ref a), (1, .int (iI i1))] [.int (iI v46), .int (iI v34)] _
        refine tn_icmp_eq (tgt := 76) dX5_settleCalls_60 (by decide) ⟨by omega, by omega⟩ ⟨by omega, by omega⟩ (fun h47 => ?_) (fun h47 => ?_)
        · refine tn_iinc (q0 := 2) (L' := [(1, .int (iI (i1 + 1))), (2, .int (iI v21)), (0, .ref a)]) dX5_settleCalls_76 rfl (by decide) rfl ?_
          refine tn_goto (tgt := 2) dX5_settleCalls_79 (by decide) ?_
          have w49 := f13; unfold ATV at w49; rw [if_pos ⟨by omega, by omega⟩] at w49
          have z48h := hst
          have z48k : KW (v14) (cx.ck i1) := by rw [w49]; exact z48h.2.1.2.2.2.1 x3 (rc_F hF (Or.inl (by decide)) (by decide) (hx4)) i1 (by omega) (by show i1 < cx.cn; omega)
          have z48v := st_at (c := fpC (cnts (cSs cx i1.toNat) cx.fp) cx) f20 z48h.2.1 hw h_a z48k (by omega)
          have z48v2 : v21 < cx.rn := z48v.2.1
          have w50 := f33; unfold ATV at w50; rw [if_pos ⟨by omega, by omega⟩] at w50
          have w51 := f45; unfold ATV at w51; rw [if_pos ⟨by omega, by omega⟩] at w51
          have z48r : v34 = cx.rp v21 := by rw [w50]; exact z48h.2.1.2.2.1 x23 (rc_F hF (Or.inl (by decide)) (by decide) (hx24)) v21 (by omega) z48v2
          have z48q : v46 = cx.cc i1 := by rw [w51]; exact z48h.2.1.2.2.2.2.2 x35 (rc_F hF (Or.inl (by decide)) (by decide) (hx36)) i1 (by omega) (by show i1 < cx.cn; omega)
          have z48c : cS cx i1 = [] := st_eq (c := fpC (cnts (cSs cx i1.toNat) cx.fp) cx) f20 z48h.2.1 hw h_a z48k (by omega) (by show cx.rp v21 = cx.cc i1; omega)
          exact tn_sub [2, 0] rfl (ih _ (by omega) (i1 + 1) σ hw (FrC.rfl.trans (FrC.sub hF (by decide))) (by omega) (by omega) (RD0.qc hst (by rw [cSs_s cx (by omega), z48c]; rfl)) rfl)
        · refine tn_aload_n dX5_settleCalls_63 rfl 1 rfl ?_
          refine tn_iconst dX5_settleCalls_64 ?_
          refine tn_aload_n dX5_settleCalls_65 rfl 1 rfl ?_
          obtain ⟨x52, hx53, hk54, hl55⟩ : ∃ x : Nat, σ0.2.1 40 a = (x : Int) ∧ AR T x 19 256 256 := wf_40 hw0 h_a
          have hk54i : IA T x52 := by unfold IA; omega
          refine tn_getR (ci := 5) (i := 7) (n := 40) (x := x52) dX5_settleCalls_66 rfl lay_5 (by decide) fl5_34 h_a rfl rfl (rc_F hF (Or.inl (by decide)) (by decide) (hx53)) ?_
          refine tn_iload_n dX5_settleCalls_69 rfl 2 rfl ?_
          refine tn_callSN (M := m_X5_settleCalls) (pc := 70) (ix := 231) (M' := m_X11_at) (As := [.ref x52, .int (iI i1)]) (rest := [.int (iI 4), .ref a]) dX5_settleCalls_70 ok_X11_at stt_X11_at nl5_231 np_X11_at rfl (Nat.le_of_ble_eq_true rfl) (Nat.le_of_ble_eq_true rfl) rfl (k_X11_at (d + 1) (T := T) (σ := σ) (x := x52) (i := i1) hk54i (by omega) (by omega) hw ) (fun r56 T58 σ57 gt59 hp => ?_)
          obtain ⟨v63, rfl, rfl, rfl, f60, f61, f62⟩ := hp
          clear gt59
          show Tn _ _ 73 T σ [(2, .int (iI v21)), (0, .ref a), (1, .int (iI i1))] [.int (iI v63), .int (iI 4), .ref a] _
          refine tn_callV (M := m_X5_settleCalls) (pc := 73) (ix := 113) (ci := 5) (M' := m_X5_note) (As := [.int (iI 4), .int (iI v63)]) (rest := []) dX5_settleCalls_73 ok_X5_note im_X5_note se_X5_note ml5_113 np_X5_note rfl rfl h_a rfl (Nat.le_of_ble_eq_true rfl) (Nat.le_of_ble_eq_true rfl) rfl (k_X5_note_f (d + 1) (T := T) (σ := σ) (a := a) (f := 4) (p := v63) h_a (by decide) (by omega) hw ) (fun r64 T66 σ65 gt67 hp => ?_)
          obtain ⟨rfl, rfl, w70, F71, f68⟩ := hp
          clear gt67
          have fx72 : RD0 σ65 a Sx nx jx (fpC (cntN 4 (v63) (fpC (cnts (cSs cx i1.toNat) cx.fp) cx).fp) (fpC (cnts (cSs cx i1.toNat) cx.fp) cx)) := RD0.nt hst hw h_a F71 f68
          show Tn _ _ 76 T σ65 [(2, .int (iI v21)), (0, .ref a), (1, .int (iI i1))] [] _
          refine tn_iinc (q0 := 2) (L' := [(1, .int (iI (i1 + 1))), (2, .int (iI v21)), (0, .ref a)]) dX5_settleCalls_76 rfl (by decide) rfl ?_
          refine tn_goto (tgt := 2) dX5_settleCalls_79 (by decide) ?_
          have w74 := f13; unfold ATV at w74; rw [if_pos ⟨by omega, by omega⟩] at w74
          have z73h := hst
          have z73k : KW (v14) (cx.ck i1) := by rw [w74]; exact z73h.2.1.2.2.2.1 x3 (rc_F hF (Or.inl (by decide)) (by decide) (hx4)) i1 (by omega) (by show i1 < cx.cn; omega)
          have z73v := st_at (c := fpC (cnts (cSs cx i1.toNat) cx.fp) cx) f20 z73h.2.1 hw h_a z73k (by omega)
          have z73v2 : v21 < cx.rn := z73v.2.1
          have w75 := f33; unfold ATV at w75; rw [if_pos ⟨by omega, by omega⟩] at w75
          have w76 := f45; unfold ATV at w76; rw [if_pos ⟨by omega, by omega⟩] at w76
          have z73r : v34 = cx.rp v21 := by rw [w75]; exact z73h.2.1.2.2.1 x23 (rc_F hF (Or.inl (by decide)) (by decide) (hx24)) v21 (by omega) z73v2
          have z73q : v46 = cx.cc i1 := by rw [w76]; exact z73h.2.1.2.2.2.2.2 x35 (rc_F hF (Or.inl (by decide)) (by decide) (hx36)) i1 (by omega) (by show i1 < cx.cn; omega)
          have z73c : cS cx i1 = [(cx.cp i1, 4)] := st_ne (c := fpC (cnts (cSs cx i1.toNat) cx.fp) cx) f20 z73h.2.1 hw h_a z73k (by omega) (by show cx.rp v21 ≠ cx.cc i1; omega)
          have w77 := f62; unfold ATV at w77; rw [if_pos ⟨by omega, by omega⟩] at w77
          have z73p : v63 = cx.cp i1 := by rw [w77]; exact z73h.2.1.2.2.2.2.1 x52 (rc_F hF (Or.inl (by decide)) (by decide) (hx53)) i1 (by omega) (by show i1 < cx.cn; omega)
          exact tn_sub [2, 0] rfl (ih _ (by omega) (i1 + 1) σ65 w70 ((FrC.rfl.trans (FrC.sub hF (by decide))).trans (FrC.sub F71 (by decide))) (by omega) (by omega) (RD0.qc fx72 (by rw [cSs_s cx (by omega), z73c, z73p]; rfl)) rfl)
      · refine tn_aload_n dX5_settleCalls_28 rfl 1 rfl ?_
        refine tn_iconst dX5_settleCalls_29 ?_
        refine tn_aload_n dX5_settleCalls_30 rfl 1 rfl ?_
        obtain ⟨x78, hx79, hk80, hl81⟩ : ∃ x : Nat, σ0.2.1 40 a = (x : Int) ∧ AR T x 19 256 256 := wf_40 hw0 h_a
        have hk80i : IA T x78 := by unfold IA; omega
        refine tn_getR (ci := 5) (i := 7) (n := 40) (x := x78) dX5_settleCalls_31 rfl lay_5 (by decide) fl5_34 h_a rfl rfl (rc_F hF (Or.inl (by decide)) (by decide) (hx79)) ?_
        refine tn_iload_n dX5_settleCalls_34 rfl 2 rfl ?_
        refine tn_callSN (M := m_X5_settleCalls) (pc := 35) (ix := 231) (M' := m_X11_at) (As := [.ref x78, .int (iI i1)]) (rest := [.int (iI 3), .ref a]) dX5_settleCalls_35 ok_X11_at stt_X11_at nl5_231 np_X11_at rfl (Nat.le_of_ble_eq_true rfl) (Nat.le_of_ble_eq_true rfl) rfl (k_X11_at (d + 1) (T := T) (σ := σ) (x := x78) (i := i1) hk80i (by omega) (by omega) hw ) (fun r82 T84 σ83 gt85 hp => ?_)
        obtain ⟨v89, rfl, rfl, rfl, f86, f87, f88⟩ := hp
        clear gt85
        show Tn _ _ 38 T σ [(2, .int (iI v21)), (0, .ref a), (1, .int (iI i1))] [.int (iI v89), .int (iI 3), .ref a] _
        refine tn_callV (M := m_X5_settleCalls) (pc := 38) (ix := 113) (ci := 5) (M' := m_X5_note) (As := [.int (iI 3), .int (iI v89)]) (rest := []) dX5_settleCalls_38 ok_X5_note im_X5_note se_X5_note ml5_113 np_X5_note rfl rfl h_a rfl (Nat.le_of_ble_eq_true rfl) (Nat.le_of_ble_eq_true rfl) rfl (k_X5_note_f (d + 1) (T := T) (σ := σ) (a := a) (f := 3) (p := v89) h_a (by decide) (by omega) hw ) (fun r90 T92 σ91 gt93 hp => ?_)
        obtain ⟨rfl, rfl, w96, F97, f94⟩ := hp
        clear gt93
        have fx98 : RD0 σ91 a Sx nx jx (fpC (cntN 3 (v89) (fpC (cnts (cSs cx i1.toNat) cx.fp) cx).fp) (fpC (cnts (cSs cx i1.toNat) cx.fp) cx)) := RD0.nt hst hw h_a F97 f94
        show Tn _ _ 41 T σ91 [(2, .int (iI v21)), (0, .ref a), (1, .int (iI i1))] [] _
        refine tn_goto (tgt := 76) dX5_settleCalls_41 (by decide) ?_
        refine tn_iinc (q0 := 2) (L' := [(1, .int (iI (i1 + 1))), (2, .int (iI v21)), (0, .ref a)]) dX5_settleCalls_76 rfl (by decide) rfl ?_
        refine tn_goto (tgt := 2) dX5_settleCalls_79 (by decide) ?_
        have w100 := f13; unfold ATV at w100; rw [if_pos ⟨by omega, by omega⟩] at w100
        have z99h := hst
        have z99k : KW (v14) (cx.ck i1) := by rw [w100]; exact z99h.2.1.2.2.2.1 x3 (rc_F hF (Or.inl (by decide)) (by decide) (hx4)) i1 (by omega) (by show i1 < cx.cn; omega)
        have z99c : cS cx i1 = [(cx.cp i1, 3)] := st_no (c := fpC (cnts (cSs cx i1.toNat) cx.fp) cx) f20 z99h.2.1 hw h_a z99k (by omega)
        have w101 := f88; unfold ATV at w101; rw [if_pos ⟨by omega, by omega⟩] at w101
        have z99p : v89 = cx.cp i1 := by rw [w101]; exact z99h.2.1.2.2.2.2.1 x78 (rc_F hF (Or.inl (by decide)) (by decide) (hx79)) i1 (by omega) (by show i1 < cx.cn; omega)
        exact tn_sub [2, 0] rfl (ih _ (by omega) (i1 + 1) σ91 w96 ((FrC.rfl.trans (FrC.sub hF (by decide))).trans (FrC.sub F97 (by decide))) (by omega) (by omega) (RD0.qc fx98 (by rw [cSs_s cx (by omega), z99c, z99p]; rfl)) rfl)
set_option maxHeartbeats 4000000 in
set_option maxRecDepth 20000 in
theorem l_X5_settleCalls_f_117 (d : Nat) {T : CT} {σ0 : MS} {a : Nat} {c1 : Int} {rx2 : Nat} {post : Option Value → CT → MS → Prop} (h_a : OB T a 5) (r_c1 : 0 ≤ c1 ∧ c1 ≤ 6) (h_rx2 : OB T rx2 1) (t_rx2 : (T rx2).1 = 31) (hw0 : WT T σ0) (hx_162 : ∀ (i3 : Int) (σ : MS) , (WT T σ) → (FrC T [] σ0 σ) → (0 ≤ i3 ∧ i3 ≤ 2147483647) → Tn (d + 3) m_X5_settleCalls 162 T σ [(0, .ref a), (1, .int (iI c1)), (2, .ref rx2), (3, .int (iI i3))] [] post) : ∀ (n : Nat) (i3 : Int) (σ : MS) , (WT T σ) → (FrC T [] σ0 σ) → (0 ≤ i3 ∧ i3 ≤ 2147483647) → (2147483700 - i3).toNat = n → Tn (d + 3) m_X5_settleCalls 117 T σ [(0, .ref a), (1, .int (iI c1)), (2, .ref rx2), (3, .int (iI i3))] [] post := by
  intro n
  induction n using Nat.strongRecOn with
  | _ n ih =>
    intro i3 σ hw hF r_i3 hm
    refine tn_aload_n dX5_settleCalls_117 rfl 2 rfl ?_
    refine tn_ifnull dX5_settleCalls_118 ?_
    refine tn_iload_n dX5_settleCalls_121 rfl 3 rfl ?_
    refine tn_aload_n dX5_settleCalls_122 rfl 2 rfl ?_
    refine tn_getI (ci := 1) (i := 1) (n := 6) (t := σ0.2.1 6 rx2) dX5_settleCalls_123 rfl lay_1 (by decide) fl5_146 h_rx2 rfl rfl (rc_F hF (Or.inl (by decide)) (by decide) (rfl)) ?_
    have g1 : ((0 : Int) ≤ σ0.2.1 6 rx2 ∧ σ0.2.1 6 rx2 ≤ 5000) ∧ ((T rx2).1 = 50 → σ0.2.1 6 rx2 ≤ 200) := wf_6 hw0 h_rx2
    have g1x := g1.2
    replace g1 := g1.1
    clear g1x
    refine tn_icmp_ge (tgt := 162) dX5_settleCalls_126 (by decide) ⟨by omega, by omega⟩ ⟨by omega, by omega⟩ (fun h2 => ?_) (fun h2 => ?_)
    · exact tn_sub [0, 1, 2, 3] rfl (hx_162 (i3) σ hw (FrC.rfl.trans (FrC.sub hF (by decide))) (by omega))
    · refine tn_aload_n dX5_settleCalls_129 rfl 2 rfl ?_
      refine tn_iload_n dX5_settleCalls_130 rfl 3 rfl ?_
      refine tn_iconst dX5_settleCalls_131 ?_
      refine tn_callV (M := m_X5_settleCalls) (pc := 132) (ix := 164) (ci := 1) (M' := m_X1_get) (As := [.int (iI i3), .int (iI 0)]) (rest := []) dX5_settleCalls_132 ok_X1_get im_X1_get se_X1_get ml5_164 np_X1_get rfl rfl h_rx2 rfl (Nat.le_of_ble_eq_true rfl) (Nat.le_of_ble_eq_true rfl) rfl (k_X1_get (d + 1) (T := T) (σ := σ) (a := rx2) (k := i3) (c := 0) h_rx2 (by omega) (by decide) hw (by omega)) (fun r3 T5 σ4 gt6 hp => ?_)
      obtain ⟨v8, rfl, rfl, rfl, f7⟩ := hp
      clear gt6
      show Tn _ _ 135 T σ [(0, .ref a), (1, .int (iI c1)), (2, .ref rx2), (3, .int (iI i3))] [.int (iI v8)] _
      refine tn_bipush dX5_settleCalls_135 (by decide) ?_
      refine tn_icmp_ne (tgt := 156) dX5_settleCalls_137 (by decide) ⟨by omega, by omega⟩ ⟨by decide, by decide⟩ (fun h9 => ?_) (fun h9 => ?_)
      · refine tn_iinc (q0 := 3) (L' := [(3, .int (iI (i3 + 1))), (0, .ref a), (1, .int (iI c1)), (2, .ref rx2)]) dX5_settleCalls_156 rfl (by decide) rfl ?_
        refine tn_goto (tgt := 117) dX5_settleCalls_159 (by decide) ?_
        exact tn_sub [1, 2, 3, 0] rfl (ih _ (by omega) (i3 + 1) σ hw (FrC.rfl.trans (FrC.sub hF (by decide))) (by omega) rfl)
      · refine tn_aload_n dX5_settleCalls_140 rfl 2 rfl ?_
        refine tn_iload_n dX5_settleCalls_141 rfl 3 rfl ?_
        refine tn_iconst dX5_settleCalls_142 ?_
        refine tn_aload_n dX5_settleCalls_143 rfl 0 rfl ?_
        refine tn_aload_n dX5_settleCalls_144 rfl 2 rfl ?_
        refine tn_iload_n dX5_settleCalls_145 rfl 3 rfl ?_
        refine tn_iconst dX5_settleCalls_146 ?_
        refine tn_callV (M := m_X5_settleCalls) (pc := 147) (ix := 164) (ci := 1) (M' := m_X1_get) (As := [.int (iI i3), .int (iI 2)]) (rest := [.ref a, .int (iI 2), .int (iI i3), .ref rx2]) dX5_settleCalls_147 ok_X1_get im_X1_get se_X1_get ml5_164 np_X1_get rfl rfl h_rx2 rfl (Nat.le_of_ble_eq_true rfl) (Nat.le_of_ble_eq_true rfl) rfl (k_X1_get (d + 1) (T := T) (σ := σ) (a := rx2) (k := i3) (c := 2) h_rx2 (by omega) (by decide) hw (by omega)) (fun r10 T12 σ11 gt13 hp => ?_)
        obtain ⟨v15, rfl, rfl, rfl, f14⟩ := hp
        clear gt13
        show Tn _ _ 150 T σ [(0, .ref a), (1, .int (iI c1)), (2, .ref rx2), (3, .int (iI i3))] [.int (iI v15), .ref a, .int (iI 2), .int (iI i3), .ref rx2] _
        refine tn_callV (M := m_X5_settleCalls) (pc := 150) (ix := 109) (ci := 5) (M' := m_X5_routineOf) (As := [.int (iI v15)]) (rest := [.int (iI 2), .int (iI i3), .ref rx2]) dX5_settleCalls_150 ok_X5_routineOf im_X5_routineOf se_X5_routineOf ml5_109 np_X5_routineOf rfl rfl h_a rfl (Nat.le_of_ble_eq_true rfl) (Nat.le_of_ble_eq_true rfl) rfl (k_X5_routineOf_f (d) (T := T) (σ := σ) (a := a) (k := v15) h_a (by omega) hw ) (fun r16 T18 σ17 gt19 hp => ?_)
        obtain ⟨v22, rfl, rfl, rfl, f20, f21⟩ := hp
        clear gt19
        show Tn _ _ 153 T σ [(0, .ref a), (1, .int (iI c1)), (2, .ref rx2), (3, .int (iI i3))] [.int (iI v22), .int (iI 2), .int (iI i3), .ref rx2] _
        refine tn_callV (M := m_X5_settleCalls) (pc := 153) (ix := 167) (ci := 1) (M' := m_X1_set) (As := [.int (iI i3), .int (iI 2), .int (iI v22)]) (rest := []) dX5_settleCalls_153 ok_X1_set im_X1_set se_X1_set ml5_167 np_X1_set rfl rfl h_rx2 rfl (Nat.le_of_ble_eq_true rfl) (Nat.le_of_ble_eq_true rfl) rfl (k_X1_set (d + 1) (T := T) (σ := σ) (a := rx2) (k := i3) (c := 2) (y := v22) h_rx2 (by omega) (by decide) (by omega) hw (by omega) (by omega)) (fun r23 T25 σ24 gt26 hp => ?_)
        obtain ⟨rfl, rfl, w28, F29⟩ := hp
        clear gt26
        show Tn _ _ 156 T σ24 [(0, .ref a), (1, .int (iI c1)), (2, .ref rx2), (3, .int (iI i3))] [] _
        refine tn_iinc (q0 := 3) (L' := [(3, .int (iI (i3 + 1))), (0, .ref a), (1, .int (iI c1)), (2, .ref rx2)]) dX5_settleCalls_156 rfl (by decide) rfl ?_
        refine tn_goto (tgt := 117) dX5_settleCalls_159 (by decide) ?_
        exact tn_sub [1, 2, 3, 0] rfl (ih _ (by omega) (i3 + 1) σ24 w28 ((FrC.rfl.trans (FrC.sub hF (by decide))).trans (FrC.sub F29 (by decide))) (by omega) rfl)
set_option maxHeartbeats 4000000 in
set_option maxRecDepth 20000 in
theorem l_X5_settleCalls_f_84 (d : Nat) {T : CT} {σ0 : MS} {a : Nat} {post : Option Value → CT → MS → Prop} (h_a : OB T a 5) (hw0 : WT T σ0) (hx_168 : ∀ (i1 : Int) (σ : MS) , (WT T σ) → (FrC T [] σ0 σ) → (0 ≤ i1 ∧ i1 ≤ 2147483647) → Tn (d + 3) m_X5_settleCalls 168 T σ [(0, .ref a), (1, .int (iI i1))] [] post) : ∀ (n : Nat) (i1 : Int) (σ : MS) , (WT T σ) → (FrC T [] σ0 σ) → (0 ≤ i1 ∧ i1 ≤ 2147483647) → (2147483700 - i1).toNat = n → Tn (d + 3) m_X5_settleCalls 84 T σ [(0, .ref a), (1, .int (iI i1))] [] post := by
  intro n
  induction n using Nat.strongRecOn with
  | _ n ih =>
    intro i1 σ hw hF r_i1 hm
    refine tn_aload_n dX5_settleCalls_84 rfl 0 rfl ?_
    refine tn_getI (ci := 5) (i := 10) (n := 43) (t := σ0.2.1 43 a) dX5_settleCalls_85 rfl lay_5 (by decide) fl5_51 h_a rfl rfl (rc_F hF (Or.inl (by decide)) (by decide) (rfl)) ?_
    have g1 : ((-2147483648 : Int) ≤ σ0.2.1 43 a ∧ σ0.2.1 43 a ≤ 2147483647) := wf_43 hw0 h_a
    refine tn_if_ne (tgt := 168) dX5_settleCalls_88 (by decide) ⟨by omega, by omega⟩ (fun h2 => ?_) (fun h2 => ?_)
    · exact tn_sub [0, 1] rfl (hx_168 (i1) σ hw (FrC.rfl.trans (FrC.sub hF (by decide))) (by omega))
    · refine tn_iload_n dX5_settleCalls_91 rfl 1 rfl ?_
      refine tn_aload_n dX5_settleCalls_92 rfl 0 rfl ?_
      refine tn_getI (ci := 5) (i := 5) (n := 38) (t := σ0.2.1 38 a) dX5_settleCalls_93 rfl lay_5 (by decide) fl5_58 h_a rfl rfl (rc_F hF (Or.inl (by decide)) (by decide) (rfl)) ?_
      have g3 : ((0 : Int) ≤ σ0.2.1 38 a ∧ σ0.2.1 38 a ≤ 256) := wf_38 hw0 h_a
      refine tn_icmp_ge (tgt := 168) dX5_settleCalls_96 (by decide) ⟨by omega, by omega⟩ ⟨by omega, by omega⟩ (fun h4 => ?_) (fun h4 => ?_)
      · exact tn_sub [0, 1] rfl (hx_168 (i1) σ hw (FrC.rfl.trans (FrC.sub hF (by decide))) (by omega))
      · refine tn_iload_n dX5_settleCalls_99 rfl 1 rfl ?_
        refine tn_aload_n dX5_settleCalls_100 rfl 0 rfl ?_
        obtain ⟨x5, hx6, hk7, hl8⟩ : ∃ x : Nat, σ0.2.1 34 a = (x : Int) ∧ AR T x 4 7 7 := wf_34 hw0 h_a
        have hk7i : (T x5).1 = 4 ∨ (T x5).1 = 5 := by omega
        refine tn_getR (ci := 5) (i := 1) (n := 34) (x := x5) dX5_settleCalls_101 rfl lay_5 (by decide) fl5_20 h_a rfl rfl (rc_F hF (Or.inl (by decide)) (by decide) (hx6)) ?_
        refine tn_alenX dX5_settleCalls_104 (by have q9 := hk7i; omega) ?_
        refine tn_icmp_ge (tgt := 168) dX5_settleCalls_105 (by decide) ⟨by omega, by omega⟩ ⟨by omega, by omega⟩ (fun h9 => ?_) (fun h9 => ?_)
        · exact tn_sub [0, 1] rfl (hx_168 (i1) σ hw (FrC.rfl.trans (FrC.sub hF (by decide))) (by omega))
        · refine tn_aload_n dX5_settleCalls_108 rfl 0 rfl ?_
          refine tn_getR (ci := 5) (i := 1) (n := 34) (x := x5) dX5_settleCalls_109 rfl lay_5 (by decide) fl5_20 h_a rfl rfl (rc_F hF (Or.inl (by decide)) (by decide) (hx6)) ?_
          refine tn_iload_n dX5_settleCalls_112 rfl 1 rfl ?_
          obtain ⟨x10, hx11, hk12⟩ := (hw).2.2.2.1.1 x5 hk7 (i1) (by omega) (by omega)
          refine tn_aald (z := i1) (x := x10) dX5_settleCalls_113 hk7i (by omega) (by omega) (by omega) hx11 ?_
          have hk12o : OB T x10 1 := ⟨by omega, by rw [hk12]; rfl, by omega⟩
          refine tn_astore_n (L' := [(2, .ref x10), (0, .ref a), (1, .int (iI i1))]) dX5_settleCalls_114 rfl (by decide) rfl ?_
          refine tn_iconst dX5_settleCalls_115 ?_
          refine tn_istore_n (L' := [(3, .int (iI 0)), (2, .ref x10), (0, .ref a), (1, .int (iI i1))]) dX5_settleCalls_116 rfl (by decide) rfl ?_
          refine tn_sub [2, 3, 1, 0] rfl (l_X5_settleCalls_f_117 (d) (T := T) (σ0 := σ) (a := a) (c1 := i1) (rx2 := x10) h_a (by omega) hk12o hk12 hw (fun i313 σ14 w17 F18 r19 => ?_) _ (0) σ hw FrC.rfl (by omega) rfl)
          show Tn _ _ 162 T σ14 [(0, .ref a), (1, .int (iI i1)), (2, .ref x10), (3, .int (iI i313))] [] _
          refine tn_iinc (q0 := 1) (L' := [(1, .int (iI (i1 + 1))), (0, .ref a), (2, .ref x10), (3, .int (iI i313))]) dX5_settleCalls_162 rfl (by decide) rfl ?_
          refine tn_goto (tgt := 84) dX5_settleCalls_165 (by decide) ?_
          exact tn_sub [1, 0] rfl (ih _ (by omega) (i1 + 1) σ14 w17 ((FrC.rfl.trans (FrC.sub hF (by decide))).trans (FrC.sub F18 (by decide))) (by omega) rfl)
set_option maxHeartbeats 4000000 in
set_option maxRecDepth 20000 in
theorem k_X5_settleCalls_f (d : Nat) {T : CT} {σ : MS} {a : Nat} {Sx : Int → Int} {nx jx : Nat} {cx : CS} (ha : OB T a 5) (hw : WT T σ) (hf0 : RD0 σ a Sx nx jx cx) : Tn (d + 3) m_X5_settleCalls 0 T σ [(0, .ref a)] [] (fun ro T2 σ2 => ∃ v : Int, ro = some (.int (iI v)) ∧ T = T2 ∧ WT T2 σ2 ∧ FrC T [43, 44] σ σ2 ∧ (v = 0 ∨ v = 1) ∧ (SQ9 σ2 a cx v)) := by
  have hSb := hf0.sb
  have e42 : σ.2.1 42 a = cx.cn := hf0.2.1.1.2.2.2.1
  have e38 : σ.2.1 38 a = cx.rn := hf0.2.1.1.2.2.1
  have b38 := wf_38 hw ha
  have b42 := wf_42 hw ha
  refine tn_iconst dX5_settleCalls_0 ?_
  refine tn_istore_n (L' := [(1, .int (iI 0)), (0, .ref a)]) dX5_settleCalls_1 rfl (by decide) rfl ?_
  refine tn_sub [1, 0] rfl (l_X5_settleCalls_f_2 (d) (T := T) (σ0 := σ) (a := a) (Sx := Sx) (nx := nx) (jx := jx) (cx := cx) ha hw e42 e38 (by omega) (by omega) (fun i11 σ2 w5 F6 r7 f8 f9 f10 => ?_) _ (0) σ hw FrC.rfl (by omega) (by omega) hf0 rfl)
  show Tn _ _ 82 T σ2 [(0, .ref a), (1, .int (iI i11))] [] _
  refine tn_iconst dX5_settleCalls_82 ?_
  refine tn_istore_n (L' := [(1, .int (iI 0)), (0, .ref a)]) dX5_settleCalls_83 rfl (by decide) rfl ?_
  refine tn_sub [1, 0] rfl (l_X5_settleCalls_f_84 (d) (T := T) (σ0 := σ2) (a := a) ha w5 (fun i111 σ12 w15 F16 r17 => ?_) _ (0) σ2 w5 FrC.rfl (by omega) rfl)
  show Tn _ _ 168 T σ12 [(0, .ref a), (1, .int (iI i111))] [] _
  refine tn_aload_n dX5_settleCalls_168 rfl 0 rfl ?_
  refine tn_getI (ci := 5) (i := 10) (n := 43) (t := σ2.2.1 43 a) dX5_settleCalls_169 rfl lay_5 (by decide) fl5_51 ha rfl rfl (rc_F F16 (Or.inl (by decide)) (by decide) (rfl)) ?_
  have g18 : ((-2147483648 : Int) ≤ σ2.2.1 43 a ∧ σ2.2.1 43 a ≤ 2147483647) := wf_43 w5 ha
  refine tn_if_ne (tgt := 179) dX5_settleCalls_172 (by decide) ⟨by omega, by omega⟩ (fun h19 => ?_) (fun h19 => ?_)
  · refine tn_iconst dX5_settleCalls_179 ?_
    have w20 : RD0 σ2 a Sx nx jx (fpC (cnts (cSs cx cx.cn.toNat) cx.fp) cx) := RD0.qc f9 (by rw [show i11 = cx.cn by omega])
    have w20p : (σ12.2.1 43 a, σ12.2.1 44 a) = cnts (cSs cx cx.cn.toNat) cx.fp := by rw [show σ12.2.1 43 a = σ2.2.1 43 a from rc_F F16 (Or.inl (by decide)) (by decide) (rfl), show σ12.2.1 44 a = σ2.2.1 44 a from rc_F F16 (Or.inl (by decide)) (by decide) (rfl)]; exact w20.2.1.fp2
    have w208 : σ12.2.1 38 a = cx.rn := (rc_F F16 (Or.inl (by decide)) (by decide) (rc_F F6 (Or.inl (by decide)) (by decide) (rfl))).trans (show σ.2.1 38 a = cx.rn from hf0.2.1.1.2.2.1)
    have w203 : σ12.2.1 43 a = σ2.2.1 43 a := rc_F F16 (Or.inl (by decide)) (by decide) (rfl)
    exact tn_zret (v := 0) rfl (by decide) dX5_settleCalls_180 ⟨_, rfl, rfl, w15, ((FrC.rfl.trans (FrC.sub F6 (by decide))).trans (FrC.sub F16 (by decide))), by omega, ⟨w20p, w208, fun q => absurd q (by decide), fun _ => by rw [w203]; omega⟩⟩
  · refine tn_iconst dX5_settleCalls_175 ?_
    refine tn_goto (tgt := 180) dX5_settleCalls_176 (by decide) ?_
    have w21 : RD0 σ2 a Sx nx jx (fpC (cnts (cSs cx cx.cn.toNat) cx.fp) cx) := RD0.qc f9 (by rw [show i11 = cx.cn by omega])
    have w21p : (σ12.2.1 43 a, σ12.2.1 44 a) = cnts (cSs cx cx.cn.toNat) cx.fp := by rw [show σ12.2.1 43 a = σ2.2.1 43 a from rc_F F16 (Or.inl (by decide)) (by decide) (rfl), show σ12.2.1 44 a = σ2.2.1 44 a from rc_F F16 (Or.inl (by decide)) (by decide) (rfl)]; exact w21.2.1.fp2
    have w218 : σ12.2.1 38 a = cx.rn := (rc_F F16 (Or.inl (by decide)) (by decide) (rc_F F6 (Or.inl (by decide)) (by decide) (rfl))).trans (show σ.2.1 38 a = cx.rn from hf0.2.1.1.2.2.1)
    have w213 : σ12.2.1 43 a = σ2.2.1 43 a := rc_F F16 (Or.inl (by decide)) (by decide) (rfl)
    exact tn_zret (v := 1) rfl (by decide) dX5_settleCalls_180 ⟨_, rfl, rfl, w15, ((FrC.rfl.trans (FrC.sub F6 (by decide))).trans (FrC.sub F16 (by decide))), by omega, ⟨w21p, w218, fun _ => by rw [w213]; omega, fun q => absurd q (by decide)⟩⟩
