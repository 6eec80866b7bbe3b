section
set_option maxHeartbeats 1000000 in
set_option maxRecDepth 20000 in
theorem l_X8_goThrough_x_9 (d : Nat) {T : CT} {σ0 : MS} {a : Nat} {rx1 : Nat} {c2 : Int} {c3 : Int} {x : Nat} {n : Int} {W : Int → It} {xg : Nat} {Lg : Int → Int64} {xm_ : Nat} {Rm : Int → Int} {xy : Nat} {Ly : Int → Int64} {xz : Nat} {Lz : Int → Int64} {xr : Nat} {Rr : Int → Int} {cc : Int} {post : Option Value → CT → MS → Prop} (h_a : OB T a 8) (h_rx1 : OB T rx1 1) (t_rx1 : (T rx1).1 = 50) (r_c2 : 0 ≤ c2 ∧ c2 ≤ 200) (r_c3 : -1 ≤ c3 ∧ c3 ≤ 191) (hw0 : WT T σ0) (hk : 0 ≤ c2 ∧ c2 < n) (h3 : c3 = -1 ∨ ((0 ≤ c3 ∧ c3 < 192) ∧ 0 ≤ Rm c3 ∧ Rm c3 < 192)) (hx : σ0.2.1 5 rx1 = (x : Int)) (hn : σ0.2.1 6 rx1 = n) (hW : cW σ0 x n = W) (hxg : σ0.2.1 76 a = (xg : Int)) (hLg : σ0.2.2 xg = Lg) (hxm_ : σ0.2.1 75 a = (xm_ : Int)) (hRm : σ0.2.1 (1000 + xm_) = Rm) (hxy : σ0.2.1 77 a = (xy : Int)) (hLy : σ0.2.2 xy = Ly) (hxz : σ0.2.1 79 a = (xz : Int)) (hxr : σ0.2.1 78 a = (xr : Int)) (hRr : σ0.2.1 (1000 + xr) = Rr) (hcc : σ0.2.1 80 a = cc) (hN : n ≤ 200) (hwok : WOK W n) (hne : xy ≠ xz ∧ xg ≠ xz ∧ x ≠ xr) (hx_81 : ∀ (i4 : Int) (σ : MS) , (WT T σ) → (FrC T [] σ0 σ) → (0 ≤ i4 ∧ i4 ≤ 3) → (CHX [] [] [xz] σ0 σ) → (True) → (i4 ≤ 3) → (GTP Ly Lg (σ.2.2 xz) c2 c3 (Rm c3) 3) → Tn (d + 3) m_X8_goThrough 81 T σ [(0, .ref a), (1, .ref rx1), (2, .int (iI c2)), (3, .int (iI c3)), (4, .int (iI i4))] [] post) : ∀ (nq9 : Nat) (i4 : Int) (σ : MS) , (WT T σ) → (FrC T [] σ0 σ) → (0 ≤ i4 ∧ i4 ≤ 3) → (CHX [] [] [xz] σ0 σ) → (GTP Ly Lg (σ.2.2 xz) c2 c3 (Rm c3) i4) → (i4 ≤ 3) → (2147483700 - i4).toNat = nq9 → Tn (d + 3) m_X8_goThrough 9 T σ [(0, .ref a), (1, .ref rx1), (2, .int (iI c2)), (3, .int (iI c3)), (4, .int (iI i4))] [] post := by
  intro nq9
  induction nq9 using Nat.strongRecOn with
  | _ nq9 ih =>
    intro i4 σ hw hF r_i4 hC hG h4 hm
    refine tn_iload dX8_goThrough_9 4 rfl ?_
    refine tn_iconst dX8_goThrough_11 ?_
    refine tn_icmp_ge (tgt := 81) dX8_goThrough_12 (by decide) ⟨by omega, by omega⟩ ⟨by decide, by decide⟩ (fun h1 => ?_) (fun h1 => ?_)
    · exact tn_sub [0, 1, 2, 3, 4] rfl (hx_81 (i4) σ hw (FrC.rfl.trans (FrC.sub hF (by decide))) (by omega) hC True.intro (by omega) (by have z := hG; rw [show i4 = 3 by omega] at z; exact z))
    · refine tn_iload_n dX8_goThrough_15 rfl 3 rfl ?_
      refine tn_iconst dX8_goThrough_16 ?_
      refine tn_icmp_ne (tgt := 24) dX8_goThrough_17 (by decide) ⟨by omega, by omega⟩ ⟨by decide, by decide⟩ (fun h2 => ?_) (fun h2 => ?_)
      · refine tn_aload_n dX8_goThrough_24 rfl 0 rfl ?_
        obtain ⟨hk5, hl6⟩ : AR T xg 3 576 576 := ar_of (wf_76 hw0 h_a) hxg
        refine tn_getR (ci := 8) (i := 4) (n := 76) (x := xg) dX8_goThrough_25 rfl lay_8 (by decide) fl8_22 h_a rfl rfl (rc_F hF (Or.inl (by decide)) (by decide) (hxg)) ?_
        refine tn_aload_n dX8_goThrough_28 rfl 0 rfl ?_
        obtain ⟨hk9, hl10⟩ : AR T xm_ 1 192 192 := ar_of (wf_75 hw0 h_a) hxm_
        have hk9i : IA T xm_ := by unfold IA; omega
        refine tn_getR (ci := 8) (i := 3) (n := 75) (x := xm_) dX8_goThrough_29 rfl lay_8 (by decide) fl8_18 h_a rfl rfl (rc_F hF (Or.inl (by decide)) (by decide) (hxm_)) ?_
        refine tn_iload_n dX8_goThrough_32 rfl 3 rfl ?_
        have cv11 : σ.2.1 (1000 + xm_) = Rm := (CHX.r hC (by first | (simp; done) | (simp only [List.mem_cons, List.not_mem_nil, or_false, not_or]; omega))).trans (hRm)
        refine tn_callSN (M := m_X8_goThrough) (pc := 33) (ix := 74) (M' := m_X11_at) (As := [.ref xm_, .int (iI c3)]) (rest := [.ref xg]) dX8_goThrough_33 ok_X11_at stt_X11_at nl8_74 np_X11_at rfl (Nat.le_of_ble_eq_true rfl) (Nat.le_of_ble_eq_true rfl) rfl (k_X11_at_x (d + 1) (T := T) (σ := σ) (x := xm_) (i := c3) (R := Rm) hk9i (by omega) (by omega) hw cv11) (fun r12 T14 σ13 gt15 hp => ?_)
        obtain ⟨v19, rfl, rfl, rfl, f16, f17, f18⟩ := hp
        clear gt15
        clear f17
        have f18u := f18
        unfold ATQ at f18u
        show Tn _ _ 36 T σ [(0, .ref a), (1, .ref rx1), (2, .int (iI c2)), (3, .int (iI c3)), (4, .int (iI i4))] [.int (iI v19), .ref xg] _
        have hl36 : v19 = Rm c3 := by have z := f18; unfold ATQ at z; omega
        refine tn_iconst dX8_goThrough_36 ?_
        refine tn_imul dX8_goThrough_37 ?_
        refine tn_iload dX8_goThrough_38 4 rfl ?_
        refine tn_iadd dX8_goThrough_40 ?_
        refine tn_callSN (M := m_X8_goThrough) (pc := 41) (ix := 132) (M' := m_X11_bitsAt) (As := [.ref xg, .int (iI ((v19 * 3) + i4))]) (rest := []) dX8_goThrough_41 ok_X11_bitsAt stt_X11_bitsAt nl8_132 np_X11_bitsAt rfl (Nat.le_of_ble_eq_true rfl) (Nat.le_of_ble_eq_true rfl) rfl (k_X11_bitsAt_x (d + 1) (T := T) (σ := σ) (x := xg) (i := (v19 * 3) + i4) hk5 (by omega) (by omega) hw ) (fun r20 T22 σ21 gt23 hp => ?_)
        obtain ⟨v25, rfl, rfl, rfl, f24⟩ := hp
        clear gt23
        show Tn _ _ 44 T σ [(0, .ref a), (1, .ref rx1), (2, .int (iI c2)), (3, .int (iI c3)), (4, .int (iI i4))] [.long (v25)] _
        have cv26 : σ.2.2 xg = Lg := (CHX.l hC (by first | (simp; done) | (simp only [List.mem_cons, List.not_mem_nil, or_false, not_or]; omega))).trans (hLg)
        refine tn_lstore (L' := [(5, .long (v25)), (0, .ref a), (1, .ref rx1), (2, .int (iI c2)), (3, .int (iI c3)), (4, .int (iI i4))]) dX8_goThrough_44 (by decide) rfl ?_
        refine tn_aload_n dX8_goThrough_46 rfl 1 rfl ?_
        obtain ⟨hk29, hl30⟩ : AR T xz 3 3 3 := ar_of (wf_79 hw0 h_a) hxz
        refine tn_getR (ci := 8) (i := 7) (n := 79) (x := xz) dX8_goThrough_47 rfl lay_8 (by decide) fl8_31 h_a rfl rfl (rc_F hF (Or.inl (by decide)) (by decide) (hxz)) ?_
        refine tn_iload dX8_goThrough_50 5 rfl ?_
        refine tn_aload_n dX8_goThrough_52 rfl 1 rfl ?_
        obtain ⟨hk33, hl34⟩ : AR T xy 3 603 603 := ar_of (wf_77 hw0 h_a) hxy
        refine tn_getR (ci := 8) (i := 5) (n := 77) (x := xy) dX8_goThrough_53 rfl lay_8 (by decide) fl8_25 h_a rfl rfl (rc_F hF (Or.inl (by decide)) (by decide) (hxy)) ?_
        refine tn_iload_n dX8_goThrough_56 rfl 3 rfl ?_
        refine tn_iconst dX8_goThrough_57 ?_
        refine tn_imul dX8_goThrough_58 ?_
        refine tn_iload dX8_goThrough_59 5 rfl ?_
        refine tn_iadd dX8_goThrough_61 ?_
        refine tn_callSN (M := m_X8_goThrough) (pc := 62) (ix := 132) (M' := m_X11_bitsAt) (As := [.ref xy, .int (iI ((c2 * 3) + i4))]) (rest := [.int (iI i4), .ref xz]) dX8_goThrough_62 ok_X11_bitsAt stt_X11_bitsAt nl8_132 np_X11_bitsAt rfl (Nat.le_of_ble_eq_true rfl) (Nat.le_of_ble_eq_true rfl) rfl (k_X11_bitsAt_x (d + 1) (T := T) (σ := σ) (x := xy) (i := (c2 * 3) + i4) hk33 (by omega) (by omega) hw ) (fun r35 T37 σ36 gt38 hp => ?_)
        obtain ⟨v40, rfl, rfl, rfl, f39⟩ := hp
        clear gt38
        show Tn _ _ 65 T σ [(5, .long (v25)), (0, .ref a), (1, .ref rx1), (2, .int (iI c2)), (3, .int (iI c3)), (4, .int (iI i4))] [.long (v40), .int (iI i4), .ref xz] _
        have cv41 : σ.2.2 xy = Ly := (CHX.l hC (by first | (simp; done) | (simp only [List.mem_cons, List.not_mem_nil, or_false, not_or]; omega))).trans (hLy)
        refine tn_lload dX8_goThrough_65 0 rfl ?_
        refine tn_ldc2 dX8_goThrough_67 cst8_150 ?_
        refine tn_lxor dX8_goThrough_70 ?_
        refine tn_land dX8_goThrough_71 ?_
        refine tn_callSN (M := m_X8_goThrough) (pc := 72) (ix := 152) (M' := m_X11_putBits) (As := [.ref xz, .int (iI i4), .long ((v40) &&& ((v25) ^^^ (-1)))]) (rest := []) dX8_goThrough_72 ok_X11_putBits stt_X11_putBits nl8_152 np_X11_putBits rfl (Nat.le_of_ble_eq_true rfl) (Nat.le_of_ble_eq_true rfl) rfl (k_X11_putBits_x (d + 1) (T := T) (σ := σ) (x := xz) (i := i4) (w := (v40) &&& ((v25) ^^^ (-1))) hk29 (by omega) (by omega) hw ) (fun r42 T44 σ43 gt45 hp => ?_)
        obtain ⟨rfl, rfl, w49, F50, f46, f47⟩ := hp
        clear gt45
        show Tn _ _ 75 T σ43 [(5, .long (v25)), (0, .ref a), (1, .ref rx1), (2, .int (iI c2)), (3, .int (iI c3)), (4, .int (iI i4))] [] _
        refine tn_iinc (q0 := 5) (L' := [(4, .int (iI (i4 + 1))), (5, .long (v25)), (0, .ref a), (1, .ref rx1), (2, .int (iI c2)), (3, .int (iI c3))]) dX8_goThrough_75 rfl (by decide) rfl ?_
        refine tn_goto (tgt := 9) dX8_goThrough_78 (by decide) ?_
        exact tn_sub [2, 3, 4, 5, 0] rfl (ih _ (by omega) (i4 + 1) σ43 w49 ((FrC.rfl.trans (FrC.sub hF (by decide))).trans (FrC.sub F50 (by decide))) (by omega) (hC.trans (CHX.sub f46 (by simp) (by simp) (by simp))) (hG.step (w := (v40) &&& ((v25) ^^^ (-1))) (by rw [ptl_row f47 ⟨by omega, by omega⟩]) (by unfold gtw; rw [if_neg (by omega), ← ltv_in f39 cv41 (show _ = 3 * c2 + i4 by omega) ⟨by omega, by omega⟩, ← ltv_in f24 cv26 (show _ = 3 * Rm c3 + i4 by omega) ⟨by omega, by omega⟩])) (by omega) rfl)
      · refine tn_lconst (v := 0) dX8_goThrough_20 rfl ?_
        refine tn_goto (tgt := 44) dX8_goThrough_21 (by decide) ?_
        refine tn_lstore (L' := [(5, .long (0)), (0, .ref a), (1, .ref rx1), (2, .int (iI c2)), (3, .int (iI c3)), (4, .int (iI i4))]) dX8_goThrough_44 (by decide) rfl ?_
        refine tn_aload_n dX8_goThrough_46 rfl 1 rfl ?_
        obtain ⟨hk53, hl54⟩ : AR T xz 3 3 3 := ar_of (wf_79 hw0 h_a) hxz
        refine tn_getR (ci := 8) (i := 7) (n := 79) (x := xz) dX8_goThrough_47 rfl lay_8 (by decide) fl8_31 h_a rfl rfl (rc_F hF (Or.inl (by decide)) (by decide) (hxz)) ?_
        refine tn_iload dX8_goThrough_50 5 rfl ?_
        refine tn_aload_n dX8_goThrough_52 rfl 1 rfl ?_
        obtain ⟨hk57, hl58⟩ : AR T xy 3 603 603 := ar_of (wf_77 hw0 h_a) hxy
        refine tn_getR (ci := 8) (i := 5) (n := 77) (x := xy) dX8_goThrough_53 rfl lay_8 (by decide) fl8_25 h_a rfl rfl (rc_F hF (Or.inl (by decide)) (by decide) (hxy)) ?_
        refine tn_iload_n dX8_goThrough_56 rfl 3 rfl ?_
        refine tn_iconst dX8_goThrough_57 ?_
        refine tn_imul dX8_goThrough_58 ?_
        refine tn_iload dX8_goThrough_59 5 rfl ?_
        refine tn_iadd dX8_goThrough_61 ?_
        refine tn_callSN (M := m_X8_goThrough) (pc := 62) (ix := 132) (M' := m_X11_bitsAt) (As := [.ref xy, .int (iI ((c2 * 3) + i4))]) (rest := [.int (iI i4), .ref xz]) dX8_goThrough_62 ok_X11_bitsAt stt_X11_bitsAt nl8_132 np_X11_bitsAt rfl (Nat.le_of_ble_eq_true rfl) (Nat.le_of_ble_eq_true rfl) rfl (k_X11_bitsAt_x (d + 1) (T := T) (σ := σ) (x := xy) (i := (c2 * 3) + i4) hk57 (by omega) (by omega) hw ) (fun r59 T61 σ60 gt62 hp => ?_)
        obtain ⟨v64, rfl, rfl, rfl, f63⟩ := hp
        clear gt62
        show Tn _ _ 65 T σ [(5, .long (0)), (0, .ref a), (1, .ref rx1), (2, .int (iI c2)), (3, .int (iI c3)), (4, .int (iI i4))] [.long (v64), .int (iI i4), .ref xz] _
        have cv65 : σ.2.2 xy = Ly := (CHX.l hC (by first | (simp; done) | (simp only [List.mem_cons, List.not_mem_nil, or_false, not_or]; omega))).trans (hLy)
        refine tn_lload dX8_goThrough_65 0 rfl ?_
        refine tn_ldc2 dX8_goThrough_67 cst8_150 ?_
        refine tn_lxor dX8_goThrough_70 ?_
        refine tn_land dX8_goThrough_71 ?_
        refine tn_callSN (M := m_X8_goThrough) (pc := 72) (ix := 152) (M' := m_X11_putBits) (As := [.ref xz, .int (iI i4), .long ((v64) &&& ((0) ^^^ (-1)))]) (rest := []) dX8_goThrough_72 ok_X11_putBits stt_X11_putBits nl8_152 np_X11_putBits rfl (Nat.le_of_ble_eq_true rfl) (Nat.le_of_ble_eq_true rfl) rfl (k_X11_putBits_x (d + 1) (T := T) (σ := σ) (x := xz) (i := i4) (w := (v64) &&& ((0) ^^^ (-1))) hk53 (by omega) (by omega) hw ) (fun r66 T68 σ67 gt69 hp => ?_)
        obtain ⟨rfl, rfl, w73, F74, f70, f71⟩ := hp
        clear gt69
        show Tn _ _ 75 T σ67 [(5, .long (0)), (0, .ref a), (1, .ref rx1), (2, .int (iI c2)), (3, .int (iI c3)), (4, .int (iI i4))] [] _
        refine tn_iinc (q0 := 5) (L' := [(4, .int (iI (i4 + 1))), (5, .long (0)), (0, .ref a), (1, .ref rx1), (2, .int (iI c2)), (3, .int (iI c3))]) dX8_goThrough_75 rfl (by decide) rfl ?_
        refine tn_goto (tgt := 9) dX8_goThrough_78 (by decide) ?_
        exact tn_sub [2, 3, 4, 5, 0] rfl (ih _ (by omega) (i4 + 1) σ67 w73 ((FrC.rfl.trans (FrC.sub hF (by decide))).trans (FrC.sub F74 (by decide))) (by omega) (hC.trans (CHX.sub f70 (by simp) (by simp) (by simp))) (hG.step (w := (v64) &&& ((0) ^^^ (-1))) (by rw [ptl_row f71 ⟨by omega, by omega⟩]) (by unfold gtw; rw [if_pos (by omega), ← ltv_in f63 cv65 (show _ = 3 * c2 + i4 by omega) ⟨by omega, by omega⟩])) (by omega) rfl)
set_option maxHeartbeats 1000000 in
set_option maxRecDepth 20000 in
theorem k_X8_goThrough_x (d : Nat) {T : CT} {σ : MS} {a : Nat} {p1 : Nat} {p2 : Int} {x : Nat} {n : Int} {W : Int → It} {xg : Nat} {Lg : Int → Int64} {xm_ : Nat} {Rm : Int → Int} {xy : Nat} {Ly : Int → Int64} {xz : Nat} {Lz : Int → Int64} {xr : Nat} {Rr : Int → Int} {cc : Int} (ha : OB T a 8) (h_p1 : OB T p1 1) (t_p1 : (T p1).1 = 50) (h_p2 : -2147483648 ≤ p2 ∧ p2 ≤ 2147483647) (hw : WT T σ) (hx : σ.2.1 5 p1 = (x : Int)) (hn : σ.2.1 6 p1 = n) (hW : cW σ x n = W) (hxg : σ.2.1 76 a = (xg : Int)) (hLg : σ.2.2 xg = Lg) (hxm_ : σ.2.1 75 a = (xm_ : Int)) (hRm : σ.2.1 (1000 + xm_) = Rm) (hxy : σ.2.1 77 a = (xy : Int)) (hLy : σ.2.2 xy = Ly) (hxz : σ.2.1 79 a = (xz : Int)) (hLz : σ.2.2 xz = Lz) (hxr : σ.2.1 78 a = (xr : Int)) (hRr : σ.2.1 (1000 + xr) = Rr) (hcc : σ.2.1 80 a = cc) (hN : n ≤ 200) (hwok : WOK W n) (hne : xy ≠ xz ∧ xg ≠ xz ∧ x ≠ xr) (hk : 0 ≤ p2 ∧ p2 < n) (hrn : ∀ i g, 0 ≤ i → i < n → wrT (W i) g → (0 ≤ Rm g ∧ Rm g < 192)) : Tn (d + 3) m_X8_goThrough 0 T σ [(0, .ref a), (1, .ref p1), (2, .int (iI p2))] [] (fun ro T2 σ2 => ro = none ∧ T = T2 ∧ WT T2 σ2 ∧ FrC T [80] σ σ2 ∧ (CHX [(80, a)] [xr] [xz, xy] σ σ2) ∧ (GTQ W n p2 Lg Ly Rm Rr cc (σ2.2.2 xy) (σ2.2.1 (1000 + xr)) (σ2.2.1 80 a)) ∧ (σ2.2.1 80 a = 0 ∨ σ2.2.1 80 a = 1)) := by
  have h6 := wf_6 hw h_p1
  refine tn_aload_n dX8_goThrough_0 rfl 1 rfl ?_
  refine tn_iload_n dX8_goThrough_1 rfl 2 rfl ?_
  obtain ⟨hl4, hk3a, hk3b⟩ := cel_of (wf_5 hw h_p1) hx
  have hk3 : (T x).1 = 1 := hk3a (by omega)
  clear hk3a hk3b
  have hk3i : IA T x := by unfold IA; omega
  refine tn_callV (M := m_X8_goThrough) (pc := 2) (ix := 120) (ci := 1) (M' := m_X1_writtenBy) (As := [.int (iI p2)]) (rest := []) dX8_goThrough_2 ok_X1_writtenBy im_X1_writtenBy se_X1_writtenBy ml8_120 np_X1_writtenBy rfl rfl h_p1 rfl (Nat.le_of_ble_eq_true rfl) (Nat.le_of_ble_eq_true rfl) rfl (k_X1_writtenBy_x (d) (T := T) (σ := σ) (a := p1) (k := p2) (x := x) (n := n) (W := W) h_p1 (by omega) hw (hx) (hn) hW (by omega)) (fun r5 T7 σ6 gt8 hp => ?_)
  obtain ⟨v11, rfl, rfl, rfl, f9, f10⟩ := hp
  clear gt8
  show Tn _ _ 5 T σ [(0, .ref a), (1, .ref p1), (2, .int (iI p2))] [.int (iI v11)] _
  have h3r : v11 = -1 ∨ ((0 ≤ v11 ∧ v11 < 192) ∧ 0 ≤ Rm v11 ∧ Rm v11 < 192) := (by have z2 := hwok p2 (by omega) (by omega); have z3 := z2.1; have z4 := z2.2.1; exact (Classical.em (W p2 0 ≤ 5 ∨ W p2 0 = 10)).elim (fun q => have z5 : (0 ≤ v11 ∧ v11 < 192) := (by have z := f10; unfold WBQ at z; omega); Or.inr ⟨z5, hrn p2 _ (by omega) (by omega) ((wb_wr z2 ⟨by omega, by omega⟩ f10).mp ⟨rfl, z5⟩)⟩) (fun q => Or.inl (by have z := f10; unfold WBQ at z; omega)))
  refine tn_istore_n (L' := [(3, .int (iI v11)), (0, .ref a), (1, .ref p1), (2, .int (iI p2))]) dX8_goThrough_5 rfl (by decide) rfl ?_
  refine tn_iconst dX8_goThrough_6 ?_
  refine tn_istore (L' := [(4, .int (iI 0)), (3, .int (iI v11)), (0, .ref a), (1, .ref p1), (2, .int (iI p2))]) dX8_goThrough_7 (by decide) rfl ?_
  refine tn_sub [2, 3, 4, 1, 0] rfl (l_X8_goThrough_x_9 (d) (T := T) (σ0 := σ) (a := a) (rx1 := p1) (c2 := p2) (c3 := v11) (x := x) (n := n) (W := (W)) (xg := xg) (Lg := (Lg)) (xm_ := xm_) (Rm := (Rm)) (xy := xy) (Ly := (Ly)) (xz := xz) (Lz := Lz) (xr := xr) (Rr := (Rr)) (cc := cc) ha h_p1 t_p1 (by omega) (by omega) hw (by omega) h3r (hx) (hn) hW (hxg) hLg (hxm_) hRm (hxy) hLy (hxz) (hxr) hRr (hcc) hN hwok hne (fun i412 σ13 w16 F17 r18 f19 f20 f21 f22 => ?_) _ (0) σ hw FrC.rfl (by omega) CHX.rfl (fun j a b => by omega) (by omega) rfl)
  show Tn _ _ 81 T σ13 [(0, .ref a), (1, .ref p1), (2, .int (iI p2)), (3, .int (iI v11)), (4, .int (iI i412))] [] _
  refine tn_aload_n dX8_goThrough_81 rfl 0 rfl ?_
  obtain ⟨hk25, hl26⟩ : AR T xz 3 3 3 := ar_of (wf_79 hw ha) hxz
  refine tn_getR (ci := 8) (i := 7) (n := 79) (x := xz) dX8_goThrough_82 rfl lay_8 (by decide) fl8_31 ha rfl rfl (rc_F F17 (Or.inl (by decide)) (by decide) (hxz)) ?_
  refine tn_iconst dX8_goThrough_85 ?_
  refine tn_iload_n dX8_goThrough_86 rfl 3 rfl ?_
  refine tn_callSN (M := m_X8_goThrough) (pc := 87) (ix := 104) (M' := m_X11_include) (As := [.ref xz, .int (iI 0), .int (iI v11)]) (rest := []) dX8_goThrough_87 ok_X11_include stt_X11_include nl8_104 np_X11_include rfl (Nat.le_of_ble_eq_true rfl) (Nat.le_of_ble_eq_true rfl) rfl (k_X11_include_x (d) (T := T) (σ := σ13) (x := xz) (k := 0) (r := v11) (L := σ13.2.2 xz) hk25 (by omega) (by decide) (by omega) w16 rfl (by omega)) (fun r27 T29 σ28 gt30 hp => ?_)
  obtain ⟨rfl, rfl, w34, F35, f31, f32⟩ := hp
  clear gt30
  show Tn _ _ 90 T σ28 [(0, .ref a), (1, .ref p1), (2, .int (iI p2)), (3, .int (iI v11)), (4, .int (iI i412))] [] _
  refine tn_aload_n dX8_goThrough_90 rfl 1 rfl ?_
  refine tn_iload_n dX8_goThrough_91 rfl 2 rfl ?_
  have cv36 : cW σ28 x n = W := (cW_row (CHX.r f31 (by first | (simp; done) | (simp only [List.mem_cons, List.not_mem_nil, or_false, not_or]; omega)))).trans ((cW_row (CHX.r f19 (by first | (simp; done) | (simp only [List.mem_cons, List.not_mem_nil, or_false, not_or]; omega)))).trans (hW))
  refine tn_callV (M := m_X8_goThrough) (pc := 92) (ix := 156) (ci := 1) (M' := m_X1_fallsOn) (As := [.int (iI p2)]) (rest := []) dX8_goThrough_92 ok_X1_fallsOn im_X1_fallsOn se_X1_fallsOn ml8_156 np_X1_fallsOn rfl rfl h_p1 rfl (Nat.le_of_ble_eq_true rfl) (Nat.le_of_ble_eq_true rfl) rfl (k_X1_fallsOn_x (d) (T := T) (σ := σ28) (a := p1) (k := p2) (x := x) (n := n) (W := W) h_p1 (by omega) w34 (rc_F F35 (Or.inl (by decide)) (by decide) (rc_F F17 (Or.inl (by decide)) (by decide) (hx))) (rc_F F35 (Or.inl (by decide)) (by decide) (rc_F F17 (Or.inl (by decide)) (by decide) (hn))) cv36 (by omega)) (fun r37 T39 σ38 gt40 hp => ?_)
  obtain ⟨v43, rfl, rfl, rfl, f41, f42⟩ := hp
  clear gt40
  show Tn _ _ 95 T σ28 [(0, .ref a), (1, .ref p1), (2, .int (iI p2)), (3, .int (iI v11)), (4, .int (iI i412))] [.int (iI v43)] _
  refine tn_if_eq (tgt := 106) dX8_goThrough_95 (by decide) ⟨by omega, by omega⟩ (fun h44 => ?_) (fun h44 => ?_)
  · refine tn_aload_n dX8_goThrough_106 rfl 0 rfl ?_
    refine tn_aload_n dX8_goThrough_107 rfl 1 rfl ?_
    refine tn_aload_n dX8_goThrough_108 rfl 1 rfl ?_
    refine tn_iload_n dX8_goThrough_109 rfl 2 rfl ?_
    refine tn_callV (M := m_X8_goThrough) (pc := 110) (ix := 163) (ci := 1) (M' := m_X1_targetOf) (As := [.int (iI p2)]) (rest := [.ref p1, .ref a]) dX8_goThrough_110 ok_X1_targetOf im_X1_targetOf se_X1_targetOf ml8_163 np_X1_targetOf rfl rfl h_p1 rfl (Nat.le_of_ble_eq_true rfl) (Nat.le_of_ble_eq_true rfl) rfl (k_X1_targetOf_x (d) (T := T) (σ := σ28) (a := p1) (k := p2) (x := x) (n := n) (W := W) h_p1 (by omega) w34 (rc_F F35 (Or.inl (by decide)) (by decide) (rc_F F17 (Or.inl (by decide)) (by decide) (hx))) (rc_F F35 (Or.inl (by decide)) (by decide) (rc_F F17 (Or.inl (by decide)) (by decide) (hn))) cv36 (by omega)) (fun r45 T47 σ46 gt48 hp => ?_)
    obtain ⟨v51, rfl, rfl, rfl, f49, f50⟩ := hp
    clear gt48
    show Tn _ _ 113 T σ28 [(0, .ref a), (1, .ref p1), (2, .int (iI p2)), (3, .int (iI v11)), (4, .int (iI i412))] [.int (iI v51), .ref p1, .ref a] _
    obtain ⟨hk54, hl55⟩ : AR T xy 3 603 603 := ar_of (wf_77 hw ha) hxy
    have cv56 : σ28.2.2 xy = Ly := (CHX.l f31 (by first | (simp; done) | (simp only [List.mem_cons, List.not_mem_nil, or_false, not_or]; omega))).trans ((CHX.l f19 (by first | (simp; done) | (simp only [List.mem_cons, List.not_mem_nil, or_false, not_or]; omega))).trans (hLy))
    obtain ⟨hk59, hl60⟩ : AR T xr 1 201 201 := ar_of (wf_78 hw ha) hxr
    have hk59i : IA T xr := by unfold IA; omega
    have cv61 : σ28.2.1 (1000 + xr) = Rr := (CHX.r f31 (by first | (simp; done) | (simp only [List.mem_cons, List.not_mem_nil, or_false, not_or]; omega))).trans ((CHX.r f19 (by first | (simp; done) | (simp only [List.mem_cons, List.not_mem_nil, or_false, not_or]; omega))).trans (hRr))
    refine tn_callV (M := m_X8_goThrough) (pc := 113) (ix := 160) (ci := 8) (M' := m_X8_comeTo) (As := [.ref p1, .int (iI v51)]) (rest := []) dX8_goThrough_113 ok_X8_comeTo im_X8_comeTo se_X8_comeTo ml8_160 np_X8_comeTo rfl rfl ha rfl (Nat.le_of_ble_eq_true rfl) (Nat.le_of_ble_eq_true rfl) rfl (k_X8_comeTo_x (d) (T := T) (σ := σ28) (a := a) (p1 := p1) (p2 := v51) (n := n) (xy := xy) (Ly := Ly) (xz := xz) (Lz := σ28.2.2 xz) (xr := xr) (Rr := Rr) (cc := cc) ha h_p1 t_p1 (by omega) w34 (rc_F F35 (Or.inl (by decide)) (by decide) (rc_F F17 (Or.inl (by decide)) (by decide) (hn))) (rc_F F35 (Or.inl (by decide)) (by decide) (rc_F F17 (Or.inl (by decide)) (by decide) (hxy))) cv56 (rc_F F35 (Or.inl (by decide)) (by decide) (rc_F F17 (Or.inl (by decide)) (by decide) (hxz))) rfl (rc_F F35 (Or.inl (by decide)) (by decide) (rc_F F17 (Or.inl (by decide)) (by decide) (hxr))) cv61 (rc_F F35 (Or.inl (by decide)) (by decide) (rc_F F17 (Or.inl (by decide)) (by decide) (hcc))) (by omega) (by omega)) (fun r62 T64 σ63 gt65 hp => ?_)
    obtain ⟨rfl, rfl, w70, F71, f66, f67, f68⟩ := hp
    clear gt65
    show Tn _ _ 116 T σ63 [(0, .ref a), (1, .ref p1), (2, .int (iI p2)), (3, .int (iI v11)), (4, .int (iI i412))] [] _
    exact tn_vret rfl dX8_goThrough_116 ⟨rfl, rfl, w70, (((FrC.rfl.trans (FrC.sub F17 (by decide))).trans (FrC.sub F35 (by decide))).trans (FrC.sub F71 (by decide))), (((CHX.rfl.trans (CHX.sub f19 (by simp) (by simp) (by simp))).trans (CHX.sub f31 (by simp) (by simp) (by simp))).trans (CHX.sub f66 (by simp) (by simp) (by simp))), ⟨_, _, _, _, _, _, _, f42, f50, f10, GTM.of f22 (fun _ => rfl) f32, (Or.inr ⟨by omega, rfl, rfl, rfl⟩), f67⟩, f68⟩
  · refine tn_aload_n dX8_goThrough_98 rfl 0 rfl ?_
    refine tn_aload_n dX8_goThrough_99 rfl 1 rfl ?_
    refine tn_iload_n dX8_goThrough_100 rfl 2 rfl ?_
    refine tn_iconst dX8_goThrough_101 ?_
    refine tn_iadd dX8_goThrough_102 ?_
    obtain ⟨hk74, hl75⟩ : AR T xy 3 603 603 := ar_of (wf_77 hw ha) hxy
    have cv76 : σ28.2.2 xy = Ly := (CHX.l f31 (by first | (simp; done) | (simp only [List.mem_cons, List.not_mem_nil, or_false, not_or]; omega))).trans ((CHX.l f19 (by first | (simp; done) | (simp only [List.mem_cons, List.not_mem_nil, or_false, not_or]; omega))).trans (hLy))
    obtain ⟨hk79, hl80⟩ : AR T xr 1 201 201 := ar_of (wf_78 hw ha) hxr
    have hk79i : IA T xr := by unfold IA; omega
    have cv81 : σ28.2.1 (1000 + xr) = Rr := (CHX.r f31 (by first | (simp; done) | (simp only [List.mem_cons, List.not_mem_nil, or_false, not_or]; omega))).trans ((CHX.r f19 (by first | (simp; done) | (simp only [List.mem_cons, List.not_mem_nil, or_false, not_or]; omega))).trans (hRr))
    refine tn_callV (M := m_X8_goThrough) (pc := 103) (ix := 160) (ci := 8) (M' := m_X8_comeTo) (As := [.ref p1, .int (iI (p2 + 1))]) (rest := []) dX8_goThrough_103 ok_X8_comeTo im_X8_comeTo se_X8_comeTo ml8_160 np_X8_comeTo rfl rfl ha rfl (Nat.le_of_ble_eq_true rfl) (Nat.le_of_ble_eq_true rfl) rfl (k_X8_comeTo_x (d) (T := T) (σ := σ28) (a := a) (p1 := p1) (p2 := p2 + 1) (n := n) (xy := xy) (Ly := Ly) (xz := xz) (Lz := σ28.2.2 xz) (xr := xr) (Rr := Rr) (cc := cc) ha h_p1 t_p1 (by omega) w34 (rc_F F35 (Or.inl (by decide)) (by decide) (rc_F F17 (Or.inl (by decide)) (by decide) (hn))) (rc_F F35 (Or.inl (by decide)) (by decide) (rc_F F17 (Or.inl (by decide)) (by decide) (hxy))) cv76 (rc_F F35 (Or.inl (by decide)) (by decide) (rc_F F17 (Or.inl (by decide)) (by decide) (hxz))) rfl (rc_F F35 (Or.inl (by decide)) (by decide) (rc_F F17 (Or.inl (by decide)) (by decide) (hxr))) cv81 (rc_F F35 (Or.inl (by decide)) (by decide) (rc_F F17 (Or.inl (by decide)) (by decide) (hcc))) (by omega) (by omega)) (fun r82 T84 σ83 gt85 hp => ?_)
    obtain ⟨rfl, rfl, w90, F91, f86, f87, f88⟩ := hp
    clear gt85
    show Tn _ _ 106 T σ83 [(0, .ref a), (1, .ref p1), (2, .int (iI p2)), (3, .int (iI v11)), (4, .int (iI i412))] [] _
    refine tn_aload_n dX8_goThrough_106 rfl 0 rfl ?_
    refine tn_aload_n dX8_goThrough_107 rfl 1 rfl ?_
    refine tn_aload_n dX8_goThrough_108 rfl 1 rfl ?_
    refine tn_iload_n dX8_goThrough_109 rfl 2 rfl ?_
    have cv92 : cW σ83 x n = W := (cW_row (CHX.r f86 (by first | (simp; done) | (simp only [List.mem_cons, List.not_mem_nil, or_false, not_or]; omega)))).trans (cv36)
    refine tn_callV (M := m_X8_goThrough) (pc := 110) (ix := 163) (ci := 1) (M' := m_X1_targetOf) (As := [.int (iI p2)]) (rest := [.ref p1, .ref a]) dX8_goThrough_110 ok_X1_targetOf im_X1_targetOf se_X1_targetOf ml8_163 np_X1_targetOf rfl rfl h_p1 rfl (Nat.le_of_ble_eq_true rfl) (Nat.le_of_ble_eq_true rfl) rfl (k_X1_targetOf_x (d) (T := T) (σ := σ83) (a := p1) (k := p2) (x := x) (n := n) (W := W) h_p1 (by omega) w90 (rc_F F91 (Or.inl (by decide)) (by decide) (rc_F F35 (Or.inl (by decide)) (by decide) (rc_F F17 (Or.inl (by decide)) (by decide) (hx)))) (rc_F F91 (Or.inl (by decide)) (by decide) (rc_F F35 (Or.inl (by decide)) (by decide) (rc_F F17 (Or.inl (by decide)) (by decide) (hn)))) cv92 (by omega)) (fun r93 T95 σ94 gt96 hp => ?_)
    obtain ⟨v99, rfl, rfl, rfl, f97, f98⟩ := hp
    clear gt96
    show Tn _ _ 113 T σ83 [(0, .ref a), (1, .ref p1), (2, .int (iI p2)), (3, .int (iI v11)), (4, .int (iI i412))] [.int (iI v99), .ref p1, .ref a] _
    have cv100 : σ83.2.2 xz = σ28.2.2 xz := (CHX.l f86 (by first | (simp; done) | (simp only [List.mem_cons, List.not_mem_nil, or_false, not_or]; omega))).trans (rfl)
    refine tn_callV (M := m_X8_goThrough) (pc := 113) (ix := 160) (ci := 8) (M' := m_X8_comeTo) (As := [.ref p1, .int (iI v99)]) (rest := []) dX8_goThrough_113 ok_X8_comeTo im_X8_comeTo se_X8_comeTo ml8_160 np_X8_comeTo rfl rfl ha rfl (Nat.le_of_ble_eq_true rfl) (Nat.le_of_ble_eq_true rfl) rfl (k_X8_comeTo_x (d) (T := T) (σ := σ83) (a := a) (p1 := p1) (p2 := v99) (n := n) (xy := xy) (Ly := σ83.2.2 xy) (xz := xz) (Lz := σ28.2.2 xz) (xr := xr) (Rr := σ83.2.1 (1000 + xr)) (cc := σ83.2.1 80 a) ha h_p1 t_p1 (by omega) w90 (rc_F F91 (Or.inl (by decide)) (by decide) (rc_F F35 (Or.inl (by decide)) (by decide) (rc_F F17 (Or.inl (by decide)) (by decide) (hn)))) (rc_F F91 (Or.inl (by decide)) (by decide) (rc_F F35 (Or.inl (by decide)) (by decide) (rc_F F17 (Or.inl (by decide)) (by decide) (hxy)))) rfl (rc_F F91 (Or.inl (by decide)) (by decide) (rc_F F35 (Or.inl (by decide)) (by decide) (rc_F F17 (Or.inl (by decide)) (by decide) (hxz)))) cv100 (rc_F F91 (Or.inl (by decide)) (by decide) (rc_F F35 (Or.inl (by decide)) (by decide) (rc_F F17 (Or.inl (by decide)) (by decide) (hxr)))) rfl (rfl) (by omega) (by omega)) (fun r101 T103 σ102 gt104 hp => ?_)
    obtain ⟨rfl, rfl, w109, F110, f105, f106, f107⟩ := hp
    clear gt104
    show Tn _ _ 116 T σ102 [(0, .ref a), (1, .ref p1), (2, .int (iI p2)), (3, .int (iI v11)), (4, .int (iI i412))] [] _
    exact tn_vret rfl dX8_goThrough_116 ⟨rfl, rfl, w109, ((((FrC.rfl.trans (FrC.sub F17 (by decide))).trans (FrC.sub F35 (by decide))).trans (FrC.sub F91 (by decide))).trans (FrC.sub F110 (by decide))), ((((CHX.rfl.trans (CHX.sub f19 (by simp) (by simp) (by simp))).trans (CHX.sub f31 (by simp) (by simp) (by simp))).trans (CHX.sub f86 (by simp) (by simp) (by simp))).trans (CHX.sub f105 (by simp) (by simp) (by simp))), ⟨_, _, _, _, _, _, _, f42, f98, f10, GTM.of f22 (fun _ => rfl) f32, (Or.inl ⟨by omega, f87⟩), f106⟩, f107⟩
end
section
theorem cp_b {M La M2 : Int → Int64} (h : ∀ z, 0 ≤ z → M z = if 0 ≤ z ∧ z < 0 + 3 then La (0 + (z - 0)) else M2 z) (u : Int) : bT M 0 u ↔ bT La 0 u := bT_w (by rw [h _ (by omega), if_pos (by omega)]; congr 1) (by rw [h _ (by omega), if_pos (by omega)]; congr 1) (by rw [h _ (by omega), if_pos (by omega)]; congr 1)
def LLQ (W : Int → It) (n k N : Int) (L : Int → Int64) : Prop := (W k 0 = 12 ∧ W k 11 < 10) ∧ ∃ r, (0 ≤ r ∧ r < N) ∧ lnW W n k r ∧ ¬ bT L k r
end
section
set_option maxHeartbeats 1000000 in
set_option maxRecDepth 20000 in
theorem l_X8_findLatest_x_58 (d : Nat) {T : CT} {σ0 : MS} {a : Nat} {rx1 : Nat} {c2 : Int} {L0 : Int → Int64} {R0 : Int → Int} {x : Nat} {n : Int} {W : Int → It} {xg : Nat} {Lg : Int → Int64} {xm_ : Nat} {Rm : Int → Int} {xf : Nat} {Lf : Int → Int64} {xy : Nat} {Ly : Int → Int64} {xz : Nat} {Lz : Int → Int64} {xr : Nat} {Rr : Int → Int} {cc : Int} {bg : Int → Prop} {q : Int} {post : Option Value → CT → MS → Prop} (h_a : OB T a 8) (h_rx1 : OB T rx1 1) (t_rx1 : (T rx1).1 = 50) (r_c2 : 0 ≤ c2 ∧ c2 ≤ 999999) (hw0 : WT T σ0) (hn0 : 0 ≤ n) (hx : σ0.2.1 5 rx1 = (x : Int)) (hn : σ0.2.1 6 rx1 = n) (hW : cW σ0 x n = W) (hxg : σ0.2.1 76 a = (xg : Int)) (hLg : σ0.2.2 xg = Lg) (hxm_ : σ0.2.1 75 a = (xm_ : Int)) (hRm : σ0.2.1 (1000 + xm_) = Rm) (hxf : σ0.2.1 74 a = (xf : Int)) (hLf : σ0.2.2 xf = Lf) (hxy : σ0.2.1 77 a = (xy : Int)) (hxz : σ0.2.1 79 a = (xz : Int)) (hxr : σ0.2.1 78 a = (xr : Int)) (hN : n ≤ 200) (hwok : WOK W n) (hne : xy ≠ xz ∧ xg ≠ xz ∧ x ≠ xr ∧ xg ≠ xy ∧ xm_ ≠ xr ∧ xf ≠ xy ∧ xf ≠ xz) (hgr : GRP Lg Rm q) (hwq : ∀ i g, 0 ≤ i → i < n → wrT (W i) g → 0 ≤ g ∧ g < q) (hq2 : q ≤ 192) (hLk : LNK W n) (hU : UNQ (vW W) n) (hx_89 : ∀ (i3 : Int) (σ : MS) , (WT T σ) → (FrC T [80] σ0 σ) → (0 ≤ i3 ∧ i3 ≤ 200) → (CHX [(80, a)] [xr] [xz, xy] σ0 σ) → (LRI 38793 (vW W) n q Rm bg L0 R0 (σ.2.2 xy) (trR n (σ.2.1 (1000 + xr))) i3 (σ.2.1 80 a)) → (i3 ≤ n) → ((σ.2.1 80 a) = 0 ∨ (σ.2.1 80 a) = 1) → (n ≤ i3) → Tn (d + 4) m_X8_findLatest 89 T σ [(0, .ref a), (1, .ref rx1), (2, .int (iI c2)), (3, .int (iI i3))] [] post) : ∀ (nq9 : Nat) (i3 : Int) (σ : MS) , (WT T σ) → (FrC T [80] σ0 σ) → (0 ≤ i3 ∧ i3 ≤ 200) → (CHX [(80, a)] [xr] [xz, xy] σ0 σ) → (LRI 38793 (vW W) n q Rm bg L0 R0 (σ.2.2 xy) (trR n (σ.2.1 (1000 + xr))) i3 (σ.2.1 80 a)) → (i3 ≤ n) → ((σ.2.1 80 a) = 0 ∨ (σ.2.1 80 a) = 1) → (2147483700 - i3).toNat = nq9 → Tn (d + 4) m_X8_findLatest 58 T σ [(0, .ref a), (1, .ref rx1), (2, .int (iI c2)), (3, .int (iI i3))] [] post := by
  intro nq9
  induction nq9 using Nat.strongRecOn with
  | _ nq9 ih =>
    intro i3 σ hw hF r_i3 hC hI h3 h8c hm
    refine tn_iload_n dX8_findLatest_58 rfl 3 rfl ?_
    refine tn_aload_n dX8_findLatest_59 rfl 1 rfl ?_
    refine tn_getI (ci := 1) (i := 1) (n := 6) (t := σ0.2.1 6 rx1) dX8_findLatest_60 rfl lay_1 (by decide) fl8_70 h_rx1 rfl rfl (rc_F hF (Or.inl (by decide)) (by decide) (rfl)) ?_
    have g1 : ((0 : Int) ≤ σ0.2.1 6 rx1 ∧ σ0.2.1 6 rx1 ≤ 5000) ∧ ((T rx1).1 = 50 → σ0.2.1 6 rx1 ≤ 200) := wf_6 hw0 h_rx1
    have g1x := g1.2
    replace g1 := g1.1
    have g1x := g1x t_rx1
    refine tn_icmp_ge (tgt := 89) dX8_findLatest_63 (by decide) ⟨by omega, by omega⟩ ⟨by omega, by omega⟩ (fun h2 => ?_) (fun h2 => ?_)
    · exact tn_sub [0, 1, 2, 3] rfl (hx_89 (i3) σ hw (FrC.rfl.trans (FrC.sub hF (by decide))) (by omega) hC hI (by omega) (by omega) (by omega))
    · refine tn_aload_n dX8_findLatest_66 rfl 0 rfl ?_
      obtain ⟨hk5, hl6⟩ : AR T xr 1 201 201 := ar_of (wf_78 hw0 h_a) hxr
      have hk5i : IA T xr := by unfold IA; omega
      refine tn_getR (ci := 8) (i := 6) (n := 78) (x := xr) dX8_findLatest_67 rfl lay_8 (by decide) fl8_28 h_a rfl rfl (rc_F hF (Or.inl (by decide)) (by decide) (hxr)) ?_
      refine tn_iload_n dX8_findLatest_70 rfl 3 rfl ?_
      refine tn_callSN (M := m_X8_findLatest) (pc := 71) (ix := 74) (M' := m_X11_at) (As := [.ref xr, .int (iI i3)]) (rest := []) dX8_findLatest_71 ok_X11_at stt_X11_at nl8_74 np_X11_at rfl (Nat.le_of_ble_eq_true rfl) (Nat.le_of_ble_eq_true rfl) rfl (k_X11_at_x (d + 2) (T := T) (σ := σ) (x := xr) (i := i3) (R := σ.2.1 (1000 + xr)) hk5i (by omega) (by omega) hw rfl) (fun r7 T9 σ8 gt10 hp => ?_)
      obtain ⟨v14, rfl, rfl, rfl, f11, f12, f13⟩ := hp
      clear gt10
      clear f12
      have f13u := f13
      unfold ATQ at f13u
      show Tn _ _ 74 T σ [(0, .ref a), (1, .ref rx1), (2, .int (iI c2)), (3, .int (iI i3))] [.int (iI v14)] _
      refine tn_if_eq (tgt := 83) dX8_findLatest_74 (by decide) ⟨by omega, by omega⟩ (fun h15 => ?_) (fun h15 => ?_)
      · refine tn_iinc (q0 := 3) (L' := [(3, .int (iI (i3 + 1))), (0, .ref a), (1, .ref rx1), (2, .int (iI c2))]) dX8_findLatest_83 rfl (by decide) rfl ?_
        refine tn_goto (tgt := 58) dX8_findLatest_86 (by decide) ?_
        exact tn_sub [1, 2, 3, 0] rfl (ih _ (by omega) (i3 + 1) σ hw (FrC.rfl.trans (FrC.sub hF (by decide))) (by omega) hC (hI.no (by rw [trR_in ⟨by omega, by omega⟩]; have z := f13; unfold ATQ at z; omega)) (by omega) h8c rfl)
      · refine tn_aload_n dX8_findLatest_77 rfl 0 rfl ?_
        refine tn_aload_n dX8_findLatest_78 rfl 1 rfl ?_
        refine tn_iload_n dX8_findLatest_79 rfl 3 rfl ?_
        obtain ⟨hl19, hk18a, hk18b⟩ := cel_of (wf_5 hw0 h_rx1) hx
        have hk18 : (T x).1 = 1 := hk18a (by omega)
        clear hk18a hk18b
        have hk18i : IA T x := by unfold IA; omega
        have cv20 : cW σ x n = W := (cW_row (CHX.r hC (by first | (simp; done) | (simp only [List.mem_cons, List.not_mem_nil, or_false, not_or]; omega)))).trans (hW)
        obtain ⟨hk23, hl24⟩ : AR T xg 3 576 576 := ar_of (wf_76 hw0 h_a) hxg
        have cv25 : σ.2.2 xg = Lg := (CHX.l hC (by first | (simp; done) | (simp only [List.mem_cons, List.not_mem_nil, or_false, not_or]; omega))).trans (hLg)
        obtain ⟨hk28, hl29⟩ : AR T xm_ 1 192 192 := ar_of (wf_75 hw0 h_a) hxm_
        have hk28i : IA T xm_ := by unfold IA; omega
        have cv30 : σ.2.1 (1000 + xm_) = Rm := (CHX.r hC (by first | (simp; done) | (simp only [List.mem_cons, List.not_mem_nil, or_false, not_or]; omega))).trans (hRm)
        obtain ⟨hk33, hl34⟩ : AR T xy 3 603 603 := ar_of (wf_77 hw0 h_a) hxy
        obtain ⟨hk37, hl38⟩ : AR T xz 3 3 3 := ar_of (wf_79 hw0 h_a) hxz
        refine tn_callV (M := m_X8_findLatest) (pc := 80) (ix := 147) (ci := 8) (M' := m_X8_goThrough) (As := [.ref rx1, .int (iI i3)]) (rest := []) dX8_findLatest_80 ok_X8_goThrough im_X8_goThrough se_X8_goThrough ml8_147 np_X8_goThrough rfl rfl h_a rfl (Nat.le_of_ble_eq_true rfl) (Nat.le_of_ble_eq_true rfl) rfl (k_X8_goThrough_x (d) (T := T) (σ := σ) (a := a) (p1 := rx1) (p2 := i3) (x := x) (n := n) (W := W) (xg := xg) (Lg := Lg) (xm_ := xm_) (Rm := Rm) (xy := xy) (Ly := σ.2.2 xy) (xz := xz) (Lz := σ.2.2 xz) (xr := xr) (Rr := σ.2.1 (1000 + xr)) (cc := σ.2.1 80 a) h_a h_rx1 t_rx1 (by omega) hw (rc_F hF (Or.inl (by decide)) (by decide) (hx)) (rc_F hF (Or.inl (by decide)) (by decide) (hn)) cv20 (rc_F hF (Or.inl (by decide)) (by decide) (hxg)) cv25 (rc_F hF (Or.inl (by decide)) (by decide) (hxm_)) cv30 (rc_F hF (Or.inl (by decide)) (by decide) (hxy)) rfl (rc_F hF (Or.inl (by decide)) (by decide) (hxz)) rfl (rc_F hF (Or.inl (by decide)) (by decide) (hxr)) rfl (rfl) (by omega) (by omega) (by omega) ⟨by omega, by omega⟩ (fun i g a b w => by have z := hwq i g a b w; have z2 := hgr.1 g z.1 z.2; omega)) (fun r39 T41 σ40 gt42 hp => ?_)
        obtain ⟨rfl, rfl, w47, F48, f43, f44, f45⟩ := hp
        clear gt42
        show Tn _ _ 83 T σ40 [(0, .ref a), (1, .ref rx1), (2, .int (iI c2)), (3, .int (iI i3))] [] _
        refine tn_iinc (q0 := 3) (L' := [(3, .int (iI (i3 + 1))), (0, .ref a), (1, .ref rx1), (2, .int (iI c2))]) dX8_findLatest_83 rfl (by decide) rfl ?_
        refine tn_goto (tgt := 58) dX8_findLatest_86 (by decide) ?_
        exact tn_sub [1, 2, 3, 0] rfl (ih _ (by omega) (i3 + 1) σ40 w47 ((FrC.rfl.trans (FrC.sub hF (by decide))).trans (FrC.sub F48 (by decide))) (by omega) (hC.trans (CHX.sub f43 (by simp) (by simp) (by simp))) (LRI.yes rfl hI (GTQ.tr f44) ⟨by omega, by omega⟩ hN (hwok i3 (by omega) (by omega)) hLk hU hgr (fun g w => hwq i3 g (by omega) (by omega) w) (by rw [trR_in ⟨by omega, by omega⟩]; have z := f13; unfold ATQ at z; omega)) (by omega) f45 rfl)
set_option maxHeartbeats 1000000 in
set_option maxRecDepth 20000 in
theorem l_X8_findLatest_x_38 (d : Nat) {T : CT} {σ0 : MS} {a : Nat} {rx1 : Nat} {x : Nat} {n : Int} {W : Int → It} {xg : Nat} {Lg : Int → Int64} {xm_ : Nat} {Rm : Int → Int} {xf : Nat} {Lf : Int → Int64} {xy : Nat} {Ly : Int → Int64} {xz : Nat} {Lz : Int → Int64} {xr : Nat} {Rr : Int → Int} {cc : Int} {bg : Int → Prop} {q : Int} {post : Option Value → CT → MS → Prop} (h_a : OB T a 8) (h_rx1 : OB T rx1 1) (t_rx1 : (T rx1).1 = 50) (hw0 : WT T σ0) (hn0 : 0 ≤ n) (hx : σ0.2.1 5 rx1 = (x : Int)) (hn : σ0.2.1 6 rx1 = n) (hW : cW σ0 x n = W) (hxg : σ0.2.1 76 a = (xg : Int)) (hLg : σ0.2.2 xg = Lg) (hxm_ : σ0.2.1 75 a = (xm_ : Int)) (hRm : σ0.2.1 (1000 + xm_) = Rm) (hxf : σ0.2.1 74 a = (xf : Int)) (hLf : σ0.2.2 xf = Lf) (hxy : σ0.2.1 77 a = (xy : Int)) (hxz : σ0.2.1 79 a = (xz : Int)) (hxr : σ0.2.1 78 a = (xr : Int)) (hN : n ≤ 200) (hwok : WOK W n) (hne : xy ≠ xz ∧ xg ≠ xz ∧ x ≠ xr ∧ xg ≠ xy ∧ xm_ ≠ xr ∧ xf ≠ xy ∧ xf ≠ xz) (hgr : GRP Lg Rm q) (hwq : ∀ i g, 0 ≤ i → i < n → wrT (W i) g → 0 ≤ g ∧ g < q) (hbg : ∀ u, 0 ≤ u → u < q → (bT Lf 0 u ↔ bg u)) (hq2 : q ≤ 192) (hLk : LNK W n) (hU : UNQ (vW W) n) (hx_95 : ∀ (i2 : Int) (σ : MS) , (WT T σ) → (FrC T [80] σ0 σ) → (0 ≤ i2 ∧ i2 ≤ 1000000) → (CHX [(80, a)] [xr] [xz, xy] σ0 σ) → (True) → ((σ.2.1 80 a) = 0 ∨ (σ.2.1 80 a) = 1) → (LATE (vW W) n q Rm bg (σ.2.2 xy) (trR n (σ.2.1 (1000 + xr)))) → Tn (d + 4) m_X8_findLatest 95 T σ [(0, .ref a), (1, .ref rx1), (2, .int (iI i2))] [] post) : ∀ (nq9 : Nat) (i2 : Int) (σ : MS) , (WT T σ) → (FrC T [80] σ0 σ) → (0 ≤ i2 ∧ i2 ≤ 1000000) → (CHX [(80, a)] [xr] [xz, xy] σ0 σ) → (LRR 38793 (vW W) n q Rm bg (σ.2.2 xy) (trR n (σ.2.1 (1000 + xr))) i2 (σ.2.1 80 a)) → ((σ.2.1 80 a) = 0 ∨ (σ.2.1 80 a) = 1) → (2147483700 - i2).toNat = nq9 → Tn (d + 4) m_X8_findLatest 38 T σ [(0, .ref a), (1, .ref rx1), (2, .int (iI i2))] [] post := by
  intro nq9
  induction nq9 using Nat.strongRecOn with
  | _ nq9 ih =>
    intro i2 σ hw hF r_i2 hC hR_ h8b hm
    refine tn_aload_n dX8_findLatest_38 rfl 0 rfl ?_
    refine tn_getI (ci := 8) (i := 8) (n := 80) (t := σ.2.1 80 a) dX8_findLatest_39 rfl lay_8 (by decide) fl8_142 h_a rfl rfl (rfl) ?_
    have g1 : ((0 : Int) ≤ σ.2.1 80 a ∧ σ.2.1 80 a ≤ 1) := wf_80 hw h_a
    refine tn_if_eq (tgt := 95) dX8_findLatest_42 (by decide) ⟨by omega, by omega⟩ (fun h2 => ?_) (fun h2 => ?_)
    · exact tn_sub [0, 1, 2] rfl (hx_95 (i2) σ hw (FrC.rfl.trans (FrC.sub hF (by decide))) (by omega) hC True.intro (by omega) (LRR.fin rfl hR_ (by omega)))
    · refine tn_iload_n dX8_findLatest_45 rfl 2 rfl ?_
      refine tn_ldc (n := 1000000) dX8_findLatest_46 cst8_146 rfl ?_
      refine tn_icmp_ge (tgt := 95) dX8_findLatest_48 (by decide) ⟨by omega, by omega⟩ ⟨by decide, by decide⟩ (fun h3 => ?_) (fun h3 => ?_)
      · exact tn_sub [0, 1, 2] rfl (hx_95 (i2) σ hw (FrC.rfl.trans (FrC.sub hF (by decide))) (by omega) hC True.intro (by omega) (LRR.fin rfl hR_ (by omega)))
      · refine tn_aload_n dX8_findLatest_51 rfl 0 rfl ?_
        refine tn_iconst dX8_findLatest_52 ?_
        refine tn_putV (ci := 8) (i := 8) (n := 80) (r := false) (v := 0) tyX8 tyX8_ok nmX8 dX8_findLatest_53 rfl lay_8 (by decide) fl8_142 rfl (tyX8_ok 8 (by decide)) rfl rfl rfl h_a rfl rfl ?_
        refine tn_iconst dX8_findLatest_56 ?_
        refine tn_istore_n (L' := [(3, .int (iI 0)), (0, .ref a), (1, .ref rx1), (2, .int (iI i2))]) dX8_findLatest_57 rfl (by decide) rfl ?_
        have cv4 : (sA 80 a (0) σ).2.1 (1000 + xr) = σ.2.1 (1000 + xr) := (rv_fld (by decide)).trans (rfl)
        have cv5 : cW (sA 80 a (0) σ) x n = W := (cW_fld (by decide)).trans ((cW_row (CHX.r hC (by first | (simp; done) | (simp only [List.mem_cons, List.not_mem_nil, or_false, not_or]; omega)))).trans (hW))
        have cv6 : (sA 80 a (0) σ).2.2 xg = Lg := (lv_fld (by decide)).trans ((CHX.l hC (by first | (simp; done) | (simp only [List.mem_cons, List.not_mem_nil, or_false, not_or]; omega))).trans (hLg))
        have cv7 : (sA 80 a (0) σ).2.1 (1000 + xm_) = Rm := (rv_fld (by decide)).trans ((CHX.r hC (by first | (simp; done) | (simp only [List.mem_cons, List.not_mem_nil, or_false, not_or]; omega))).trans (hRm))
        have cv8 : (sA 80 a (0) σ).2.2 xf = Lf := (lv_fld (by decide)).trans ((CHX.l hC (by first | (simp; done) | (simp only [List.mem_cons, List.not_mem_nil, or_false, not_or]; omega))).trans (hLf))
        refine tn_sub [1, 2, 3, 0] rfl (l_X8_findLatest_x_58 (d) (T := T) (σ0 := (sA 80 a (0) σ)) (a := a) (rx1 := rx1) (c2 := i2) (x := x) (n := n) (W := (W)) (xg := xg) (Lg := (Lg)) (xm_ := xm_) (Rm := (Rm)) (xf := xf) (Lf := (Lf)) (xy := xy) (Ly := Ly) (xz := xz) (Lz := Lz) (xr := xr) (Rr := Rr) (cc := cc) (bg := bg) (q := q) (L0 := (σ.2.2 xy)) (R0 := (trR n (σ.2.1 (1000 + xr)))) h_a h_rx1 t_rx1 (by omega) (hw.put (by decide) (by decide) (fo_80 (by omega))) (by omega) (rc_o (by decide) (rc_F hF (Or.inl (by decide)) (by decide) (hx))) (rc_o (by decide) (rc_F hF (Or.inl (by decide)) (by decide) (hn))) cv5 (rc_o (by decide) (rc_F hF (Or.inl (by decide)) (by decide) (hxg))) cv6 (rc_o (by decide) (rc_F hF (Or.inl (by decide)) (by decide) (hxm_))) cv7 (rc_o (by decide) (rc_F hF (Or.inl (by decide)) (by decide) (hxf))) cv8 (rc_o (by decide) (rc_F hF (Or.inl (by decide)) (by decide) (hxy))) (rc_o (by decide) (rc_F hF (Or.inl (by decide)) (by decide) (hxz))) (rc_o (by decide) (rc_F hF (Or.inl (by decide)) (by decide) (hxr))) hN hwok hne hgr hwq hq2 hLk hU (fun i39 σ10 w13 F14 r15 f16 f17 f18 f19 f20 => ?_) _ (0) (sA 80 a (0) σ) (hw.put (by decide) (by decide) (fo_80 (by omega))) FrC.rfl (by omega) CHX.rfl (by rw [show (sA 80 a (0) σ).2.1 80 a = 0 from ra_eq]; rw [cv4]; exact LRI.nil hR_.1) (by omega) (Or.inl ra_eq) rfl)
        show Tn _ _ 89 T σ10 [(0, .ref a), (1, .ref rx1), (2, .int (iI i2)), (3, .int (iI i39))] [] _
        refine tn_iinc (q0 := 2) (L' := [(2, .int (iI (i2 + 1))), (0, .ref a), (1, .ref rx1), (3, .int (iI i39))]) dX8_findLatest_89 rfl (by decide) rfl ?_
        refine tn_goto (tgt := 38) dX8_findLatest_92 (by decide) ?_
        exact tn_sub [1, 2, 0] rfl (ih _ (by omega) (i2 + 1) σ10 w13 (((FrC.rfl.trans (FrC.sub hF (by decide))).put (by decide) (by decide)).trans (FrC.sub F14 (by decide))) (by omega) ((hC.fld (by simp) (by decide)).trans (CHX.sub f16 (by simp) (by simp) (by simp))) (LRR.next (by have z := hR_; rw [show σ.2.1 80 a = 1 by omega] at z; exact z) f17 (by omega)) (by omega) rfl)
set_option maxHeartbeats 1000000 in
set_option maxRecDepth 20000 in
theorem k_X8_findLatest_x (d : Nat) {T : CT} {σ : MS} {a : Nat} {p1 : Nat} {x : Nat} {n : Int} {W : Int → It} {xg : Nat} {Lg : Int → Int64} {xm_ : Nat} {Rm : Int → Int} {xf : Nat} {Lf : Int → Int64} {xy : Nat} {Ly : Int → Int64} {xz : Nat} {Lz : Int → Int64} {xr : Nat} {Rr : Int → Int} {cc : Int} {bg : Int → Prop} {q : Int} (ha : OB T a 8) (h_p1 : OB T p1 1) (t_p1 : (T p1).1 = 50) (hw : WT T σ) (hx : σ.2.1 5 p1 = (x : Int)) (hn : σ.2.1 6 p1 = n) (hW : cW σ x n = W) (hxg : σ.2.1 76 a = (xg : Int)) (hLg : σ.2.2 xg = Lg) (hxm_ : σ.2.1 75 a = (xm_ : Int)) (hRm : σ.2.1 (1000 + xm_) = Rm) (hxf : σ.2.1 74 a = (xf : Int)) (hLf : σ.2.2 xf = Lf) (hxy : σ.2.1 77 a = (xy : Int)) (hLy : σ.2.2 xy = Ly) (hxz : σ.2.1 79 a = (xz : Int)) (hLz : σ.2.2 xz = Lz) (hxr : σ.2.1 78 a = (xr : Int)) (hRr : σ.2.1 (1000 + xr) = Rr) (hcc : σ.2.1 80 a = cc) (hN : n ≤ 200) (hwok : WOK W n) (hne : xy ≠ xz ∧ xg ≠ xz ∧ x ≠ xr ∧ xg ≠ xy ∧ xm_ ≠ xr ∧ xf ≠ xy ∧ xf ≠ xz) (hgr : GRP Lg Rm q) (hwq : ∀ i g, 0 ≤ i → i < n → wrT (W i) g → 0 ≤ g ∧ g < q) (hbg : ∀ u, 0 ≤ u → u < q → (bT Lf 0 u ↔ bg u)) (hq2 : q ≤ 192) (hLk : LNK W n) (hU : UNQ (vW W) n) : Tn (d + 4) m_X8_findLatest 0 T σ [(0, .ref a), (1, .ref p1)] [] (fun ro T2 σ2 => ro = none ∧ T = T2 ∧ WT T2 σ2 ∧ FrC T [80] σ σ2 ∧ (CHX [(80, a)] [xr] [xz, xy] σ σ2) ∧ (LATE (vW W) n q Rm bg (σ2.2.2 xy) (trR n (σ2.2.1 (1000 + xr))))) := by
  have h6 := wf_6 hw h_p1
  refine tn_aload_n dX8_findLatest_0 rfl 0 rfl ?_
  obtain ⟨hk3, hl4⟩ : AR T xr 1 201 201 := ar_of (wf_78 hw ha) hxr
  have hk3i : IA T xr := by unfold IA; omega
  refine tn_getR (ci := 8) (i := 6) (n := 78) (x := xr) dX8_findLatest_1 rfl lay_8 (by decide) fl8_28 ha rfl rfl (hxr) ?_
  refine tn_iconst dX8_findLatest_4 ?_
  refine tn_callS (M := m_X8_findLatest) (pc := 5) (ix := 136) (M' := m_J7_fill_53178) (As := [.ref xr, .int (iI 0)]) (rest := []) dX8_findLatest_5 ok_J7_fill_53178 stt_J7_fill_53178 ml8_136 np_J7_fill_53178 rfl (Nat.le_of_ble_eq_true rfl) (Nat.le_of_ble_eq_true rfl) rfl (k_J7_fill_53178_x (d + 2) (T := T) (σ := σ) (x := xr) (y := 0) hk3i (by omega) (by decide) hw (nh_k hk3 (by unfold HT; omega)) (by omega)) (fun r5 T7 σ6 gt8 hp => ?_)
  obtain ⟨rfl, rfl, w12, F13, f9, f10⟩ := hp
  clear gt8
  show Tn _ _ 8 T σ6 [(0, .ref a), (1, .ref p1)] [] _
  have cv14 : σ6.2.2 xf = Lf := (CHX.l f9 (by first | (simp; done) | (simp only [List.mem_cons, List.not_mem_nil, or_false, not_or]; omega))).trans (hLf)
  refine tn_aload_n dX8_findLatest_8 rfl 0 rfl ?_
  obtain ⟨hk17, hl18⟩ : AR T xf 3 3 3 := ar_of (wf_74 hw ha) hxf
  refine tn_getR (ci := 8) (i := 2) (n := 74) (x := xf) dX8_findLatest_9 rfl lay_8 (by decide) fl8_15 ha rfl rfl (rc_F F13 (Or.inl (by decide)) (by decide) (hxf)) ?_
  refine tn_iconst dX8_findLatest_12 ?_
  refine tn_aload_n dX8_findLatest_13 rfl 0 rfl ?_
  obtain ⟨hk21, hl22⟩ : AR T xy 3 603 603 := ar_of (wf_77 hw ha) hxy
  refine tn_getR (ci := 8) (i := 5) (n := 77) (x := xy) dX8_findLatest_14 rfl lay_8 (by decide) fl8_25 ha rfl rfl (rc_F F13 (Or.inl (by decide)) (by decide) (hxy)) ?_
  refine tn_iconst dX8_findLatest_17 ?_
  refine tn_iconst dX8_findLatest_18 ?_
  refine tn_acopyLX (a := xf) (b := xy) (sp := 0) (dp := 0) (n := 3) dX8_findLatest_19 mla8_92 acNat acSt acIni hk17 hk21 ⟨by omega, by omega⟩ (by omega) (by omega) (by omega) (by omega) (by omega) (by omega) (Nat.le_of_ble_eq_true rfl) (fun fl23 fl23e => ?_)
  refine tn_aload_n dX8_findLatest_22 rfl 0 rfl ?_
  refine tn_getR (ci := 8) (i := 6) (n := 78) (x := xr) dX8_findLatest_23 rfl lay_8 (by decide) fl8_28 ha rfl rfl ((rc_F F13 (Or.inl (by decide)) (by decide) (hxr))) ?_
  refine tn_iconst dX8_findLatest_26 ?_
  refine tn_iconst dX8_findLatest_27 ?_
  have cv24 : (rowL xy fl23 σ6).2.1 (1000 + xr) = σ6.2.1 (1000 + xr) := (id (rfl))
  refine tn_callSN (M := m_X8_findLatest) (pc := 28) (ix := 128) (M' := m_X11_put) (As := [.ref xr, .int (iI 0), .int (iI 1)]) (rest := []) dX8_findLatest_28 ok_X11_put stt_X11_put nl8_128 np_X11_put rfl (Nat.le_of_ble_eq_true rfl) (Nat.le_of_ble_eq_true rfl) rfl (k_X11_put_x (d + 2) (T := T) (σ := (rowL xy fl23 σ6)) (x := xr) (i := 0) (y := 1) hk3i (by omega) (by decide) (by decide) (w12.rowL) (nh_k hk3 (by unfold HT; omega)) (vok_1 (by have q9 := hk3; omega) (by omega))) (fun r25 T27 σ26 gt28 hp => ?_)
  obtain ⟨rfl, rfl, w32, F33, f29, f30⟩ := hp
  clear gt28
  show Tn _ _ 31 T σ26 [(0, .ref a), (1, .ref p1)] [] _
  refine tn_aload_n dX8_findLatest_31 rfl 0 rfl ?_
  refine tn_iconst dX8_findLatest_32 ?_
  refine tn_putV (ci := 8) (i := 8) (n := 80) (r := false) (v := 1) tyX8 tyX8_ok nmX8 dX8_findLatest_33 rfl lay_8 (by decide) fl8_142 rfl (tyX8_ok 8 (by decide)) rfl rfl rfl ha rfl rfl ?_
  refine tn_iconst dX8_findLatest_36 ?_
  refine tn_istore_n (L' := [(2, .int (iI 0)), (0, .ref a), (1, .ref p1)]) dX8_findLatest_37 rfl (by decide) rfl ?_
  have cv34 : (sA 80 a (1) σ26).2.2 xy = fl23 := (lv_fld (by decide)).trans ((CHX.l f29 (by first | (simp; done) | (simp only [List.mem_cons, List.not_mem_nil, or_false, not_or]; omega))).trans ((if_pos rfl)))
  have cv35 : (sA 80 a (1) σ26).2.1 (1000 + xr) = σ26.2.1 (1000 + xr) := (rv_fld (by decide)).trans (rfl)
  have cv36 : cW (sA 80 a (1) σ26) x n = W := (cW_fld (by decide)).trans ((cW_row (CHX.r f29 (by first | (simp; done) | (simp only [List.mem_cons, List.not_mem_nil, or_false, not_or]; omega)))).trans ((id ((cW_row (CHX.r f9 (by first | (simp; done) | (simp only [List.mem_cons, List.not_mem_nil, or_false, not_or]; omega)))).trans (hW)))))
  have cv37 : (sA 80 a (1) σ26).2.2 xg = Lg := (lv_fld (by decide)).trans ((CHX.l f29 (by first | (simp; done) | (simp only [List.mem_cons, List.not_mem_nil, or_false, not_or]; omega))).trans ((lv_rl (by omega)).trans ((CHX.l f9 (by first | (simp; done) | (simp only [List.mem_cons, List.not_mem_nil, or_false, not_or]; omega))).trans (hLg))))
  have cv38 : (sA 80 a (1) σ26).2.1 (1000 + xm_) = Rm := (rv_fld (by decide)).trans ((CHX.r f29 (by first | (simp; done) | (simp only [List.mem_cons, List.not_mem_nil, or_false, not_or]; omega))).trans ((id ((CHX.r f9 (by first | (simp; done) | (simp only [List.mem_cons, List.not_mem_nil, or_false, not_or]; omega))).trans (hRm)))))
  have cv39 : (sA 80 a (1) σ26).2.2 xf = Lf := (lv_fld (by decide)).trans ((CHX.l f29 (by first | (simp; done) | (simp only [List.mem_cons, List.not_mem_nil, or_false, not_or]; omega))).trans ((lv_rl (by omega)).trans (cv14)))
  refine tn_sub [1, 2, 0] rfl (l_X8_findLatest_x_38 (d) (T := T) (σ0 := (sA 80 a (1) σ26)) (a := a) (rx1 := p1) (x := x) (n := n) (W := (W)) (xg := xg) (Lg := (Lg)) (xm_ := xm_) (Rm := (Rm)) (xf := xf) (Lf := (Lf)) (xy := xy) (Ly := Ly) (xz := xz) (Lz := Lz) (xr := xr) (Rr := Rr) (cc := cc) (bg := bg) (q := q) ha h_p1 t_p1 (w32.put (by decide) (by decide) (fo_80 (by omega))) (by omega) (rc_o (by decide) (rc_F F33 (Or.inl (by decide)) (by decide) ((rc_F F13 (Or.inl (by decide)) (by decide) (hx))))) (rc_o (by decide) (rc_F F33 (Or.inl (by decide)) (by decide) ((rc_F F13 (Or.inl (by decide)) (by decide) (hn))))) cv36 (rc_o (by decide) (rc_F F33 (Or.inl (by decide)) (by decide) ((rc_F F13 (Or.inl (by decide)) (by decide) (hxg))))) cv37 (rc_o (by decide) (rc_F F33 (Or.inl (by decide)) (by decide) ((rc_F F13 (Or.inl (by decide)) (by decide) (hxm_))))) cv38 (rc_o (by decide) (rc_F F33 (Or.inl (by decide)) (by decide) ((rc_F F13 (Or.inl (by decide)) (by decide) (hxf))))) cv39 (rc_o (by decide) (rc_F F33 (Or.inl (by decide)) (by decide) ((rc_F F13 (Or.inl (by decide)) (by decide) (hxy))))) (rc_o (by decide) (rc_F F33 (Or.inl (by decide)) (by decide) ((rc_F F13 (Or.inl (by decide)) (by decide) (hxz))))) (rc_o (by decide) (rc_F F33 (Or.inl (by decide)) (by decide) ((rc_F F13 (Or.inl (by decide)) (by decide) (hxr))))) hN hwok hne hgr hwq hbg hq2 hLk hU (fun i240 σ41 w44 F45 r46 f47 f48 f49 f50 => ?_) _ (0) (sA 80 a (1) σ26) (w32.put (by decide) (by decide) (fo_80 (by omega))) FrC.rfl (by omega) CHX.rfl (by rw [cv34, show (sA 80 a (1) σ26).2.1 80 a = 1 from ra_eq]; rw [cv35]; exact LRR.start hbg (cp_b (by rw [← cv14]; exact fl23e)) (by rw [trR_in ⟨by omega, by omega⟩, ptf_row f30 ⟨by omega, by omega⟩, uZ_eq]; decide) (fun k e => (Classical.em (0 ≤ k ∧ k ≤ n)).elim (fun y => by rw [trR_in y, ptf_row f30 ⟨by omega, by omega⟩, uZ_ne e, cv24]; exact f10.z (by omega) (by omega)) (fun y => trR_out y))) (by rw [show (sA 80 a (1) σ26).2.1 80 a = 1 from ra_eq]; omega) rfl)
  show Tn _ _ 95 T σ41 [(0, .ref a), (1, .ref p1), (2, .int (iI i240))] [] _
  exact tn_vret rfl dX8_findLatest_95 ⟨rfl, rfl, w44, (((((FrC.rfl.trans (FrC.sub F13 (by decide))).rowL).trans (FrC.sub F33 (by decide))).put (by decide) (by decide)).trans (FrC.sub F45 (by decide))), (((((CHX.rfl.trans (CHX.sub f9 (by simp) (by simp) (by simp))).rowL (by simp)).trans (CHX.sub f29 (by simp) (by simp) (by simp))).fld (by simp) (by decide)).trans (CHX.sub f47 (by simp) (by simp) (by simp))), f50⟩
end
section
set_option maxHeartbeats 1000000 in
set_option maxRecDepth 20000 in
theorem l_X8_leansOnLost_x_28 (d : Nat) {T : CT} {σ : MS} {a : Nat} {rx1 : Nat} {c2 : Int} {c3 : Int} {x : Nat} {n : Int} {W : Int → It} {xy : Nat} {Ly : Int → Int64} {post : Option Value → CT → MS → Prop} (h_a : OB T a 8) (h_rx1 : OB T rx1 1) (t_rx1 : (T rx1).1 = 50) (r_c2 : 0 ≤ c2 ∧ c2 ≤ 200) (r_c3 : 0 ≤ c3 ∧ c3 ≤ 192) (hw : WT T σ) (hk : 0 ≤ c2 ∧ c2 < n) (hq : 0 ≤ c3 ∧ c3 ≤ 192) (hx : σ.2.1 5 rx1 = (x : Int)) (hn : σ.2.1 6 rx1 = n) (hW : cW σ x n = W) (hxy : σ.2.1 77 a = (xy : Int)) (hLy : σ.2.2 xy = Ly) (hN : n ≤ 200) (hx_57 : ∀ (i4 : Int) , (0 ≤ i4 ∧ i4 ≤ 192) → (True) → (i4 ≤ c3) → (∃ r, (0 ≤ r ∧ r < c3) ∧ lnW W n c2 r ∧ ¬ bT Ly c2 r) → Tn (d + 3) m_X8_leansOnLost 57 T σ [(0, .ref a), (1, .ref rx1), (2, .int (iI c2)), (3, .int (iI c3)), (4, .int (iI i4))] [] post) (hx_65 : ∀ (i4 : Int) , (0 ≤ i4 ∧ i4 ≤ 192) → (True) → (i4 ≤ c3) → (∀ r, 0 ≤ r → r < c3 → ¬ (lnW W n c2 r ∧ ¬ bT Ly c2 r)) → Tn (d + 3) m_X8_leansOnLost 65 T σ [(0, .ref a), (1, .ref rx1), (2, .int (iI c2)), (3, .int (iI c3)), (4, .int (iI i4))] [] post) : ∀ (nq9 : Nat) (i4 : Int) , (0 ≤ i4 ∧ i4 ≤ 192) → (∀ r, 0 ≤ r → r < i4 → ¬ (lnW W n c2 r ∧ ¬ bT Ly c2 r)) → (i4 ≤ c3) → (2147483700 - i4).toNat = nq9 → Tn (d + 3) m_X8_leansOnLost 28 T σ [(0, .ref a), (1, .ref rx1), (2, .int (iI c2)), (3, .int (iI c3)), (4, .int (iI i4))] [] post := by
  intro nq9
  induction nq9 using Nat.strongRecOn with
  | _ nq9 ih =>
    intro i4 r_i4 hL_ h4 hm
    refine tn_iload dX8_leansOnLost_28 4 rfl ?_
    refine tn_iload_n dX8_leansOnLost_30 rfl 3 rfl ?_
    refine tn_icmp_ge (tgt := 65) dX8_leansOnLost_31 (by decide) ⟨by omega, by omega⟩ ⟨by omega, by omega⟩ (fun h1 => ?_) (fun h1 => ?_)
    · exact tn_sub [0, 1, 2, 3, 4] rfl (hx_65 (i4) (by omega) True.intro (by omega) (fun r a b => hL_ r a (by omega)))
    · refine tn_aload_n dX8_leansOnLost_34 rfl 1 rfl ?_
      refine tn_iload_n dX8_leansOnLost_35 rfl 2 rfl ?_
      refine tn_iload dX8_leansOnLost_36 4 rfl ?_
      obtain ⟨hl5, hk4a, hk4b⟩ := cel_of (wf_5 hw h_rx1) hx
      have hk4 : (T x).1 = 1 := hk4a (by omega)
      clear hk4a hk4b
      have hk4i : IA T x := by unfold IA; omega
      refine tn_callV (M := m_X8_leansOnLost) (pc := 38) (ix := 169) (ci := 1) (M' := m_X1_leansOn) (As := [.int (iI c2), .int (iI i4)]) (rest := []) dX8_leansOnLost_38 ok_X1_leansOn im_X1_leansOn se_X1_leansOn ml8_169 np_X1_leansOn rfl rfl h_rx1 rfl (Nat.le_of_ble_eq_true rfl) (Nat.le_of_ble_eq_true rfl) rfl (k_X1_leansOn_x (d) (T := T) (σ := σ) (a := rx1) (k := c2) (r := i4) (x := x) (n := n) (W := W) h_rx1 (by omega) (by omega) hw (hx) (hn) hW (by omega)) (fun r6 T8 σ7 gt9 hp => ?_)
      obtain ⟨v12, rfl, rfl, rfl, f10, f11⟩ := hp
      clear gt9
      show Tn _ _ 41 T σ [(0, .ref a), (1, .ref rx1), (2, .int (iI c2)), (3, .int (iI c3)), (4, .int (iI i4))] [.int (iI v12)] _
      refine tn_if_eq (tgt := 59) dX8_leansOnLost_41 (by decide) ⟨by omega, by omega⟩ (fun h13 => ?_) (fun h13 => ?_)
      · refine tn_iinc (q0 := 4) (L' := [(4, .int (iI (i4 + 1))), (0, .ref a), (1, .ref rx1), (2, .int (iI c2)), (3, .int (iI c3))]) dX8_leansOnLost_59 rfl (by decide) rfl ?_
        refine tn_goto (tgt := 28) dX8_leansOnLost_62 (by decide) ?_
        exact tn_sub [1, 2, 3, 4, 0] rfl (ih _ (by omega) (i4 + 1) (by omega) (fun r a b => (Classical.em (r = i4)).elim (fun e z => absurd z.1 (by rw [e]; have y := f11; unfold LNQ at y; grind)) (fun e => hL_ r a (by omega))) (by omega) rfl)
      · refine tn_aload_n dX8_leansOnLost_44 rfl 0 rfl ?_
        obtain ⟨hk16, hl17⟩ : AR T xy 3 603 603 := ar_of (wf_77 hw h_a) hxy
        refine tn_getR (ci := 8) (i := 5) (n := 77) (x := xy) dX8_leansOnLost_45 rfl lay_8 (by decide) fl8_25 h_a rfl rfl (hxy) ?_
        refine tn_iload_n dX8_leansOnLost_48 rfl 2 rfl ?_
        refine tn_iload dX8_leansOnLost_49 4 rfl ?_
        refine tn_callSN (M := m_X8_leansOnLost) (pc := 51) (ix := 112) (M' := m_X11_has) (As := [.ref xy, .int (iI c2), .int (iI i4)]) (rest := []) dX8_leansOnLost_51 ok_X11_has stt_X11_has nl8_112 np_X11_has rfl (Nat.le_of_ble_eq_true rfl) (Nat.le_of_ble_eq_true rfl) rfl (k_X11_has_x (d) (T := T) (σ := σ) (x := xy) (k := c2) (r := i4) (L := Ly) hk16 (by omega) (by omega) (by omega) hw hLy ⟨by omega, by omega⟩) (fun r18 T20 σ19 gt21 hp => ?_)
        obtain ⟨v24, rfl, rfl, rfl, f22, f23⟩ := hp
        clear gt21
        show Tn _ _ 54 T σ [(0, .ref a), (1, .ref rx1), (2, .int (iI c2)), (3, .int (iI c3)), (4, .int (iI i4))] [.int (iI v24)] _
        refine tn_if_ne (tgt := 59) dX8_leansOnLost_54 (by decide) ⟨by omega, by omega⟩ (fun h25 => ?_) (fun h25 => ?_)
        · refine tn_iinc (q0 := 4) (L' := [(4, .int (iI (i4 + 1))), (0, .ref a), (1, .ref rx1), (2, .int (iI c2)), (3, .int (iI c3))]) dX8_leansOnLost_59 rfl (by decide) rfl ?_
          refine tn_goto (tgt := 28) dX8_leansOnLost_62 (by decide) ?_
          exact tn_sub [1, 2, 3, 4, 0] rfl (ih _ (by omega) (i4 + 1) (by omega) (fun r a b => (Classical.em (r = i4)).elim (fun e z => z.2 (by rw [e]; exact f23.mp (by omega))) (fun e => hL_ r a (by omega))) (by omega) rfl)
        · exact tn_sub [0, 1, 2, 3, 4] rfl (hx_57 (i4) (by omega) True.intro (by omega) ⟨i4, ⟨by omega, by omega⟩, (by have z := f11; unfold LNQ at z; grind), fun z => absurd (f23.mpr z) (by omega)⟩)
set_option maxHeartbeats 1000000 in
set_option maxRecDepth 20000 in
theorem k_X8_leansOnLost_x (d : Nat) {T : CT} {σ : MS} {a : Nat} {p1 : Nat} {p2 : Int} {p3 : Int} {x : Nat} {n : Int} {W : Int → It} {xy : Nat} {Ly : Int → Int64} (ha : OB T a 8) (h_p1 : OB T p1 1) (t_p1 : (T p1).1 = 50) (h_p2 : -2147483648 ≤ p2 ∧ p2 ≤ 2147483647) (h_p3 : -2147483648 ≤ p3 ∧ p3 ≤ 2147483647) (hw : WT T σ) (hx : σ.2.1 5 p1 = (x : Int)) (hn : σ.2.1 6 p1 = n) (hW : cW σ x n = W) (hxy : σ.2.1 77 a = (xy : Int)) (hLy : σ.2.2 xy = Ly) (hN : n ≤ 200) (hk : 0 ≤ p2 ∧ p2 < n) (hq : 0 ≤ p3 ∧ p3 ≤ 192) : Tn (d + 3) m_X8_leansOnLost 0 T σ [(0, .ref a), (1, .ref p1), (2, .int (iI p2)), (3, .int (iI p3))] [] (fun ro T2 σ2 => ∃ v : Int, ro = some (.int (iI v)) ∧ T = T2 ∧ σ = σ2 ∧ (v = 0 ∨ v = 1) ∧ ((v = 1 ∧ LLQ W n p2 p3 Ly) ∨ (v = 0 ∧ ¬ LLQ W n p2 p3 Ly))) := by
  have h6 := wf_6 hw h_p1
  refine tn_aload_n dX8_leansOnLost_0 rfl 1 rfl ?_
  refine tn_iload_n dX8_leansOnLost_1 rfl 2 rfl ?_
  refine tn_iconst dX8_leansOnLost_2 ?_
  obtain ⟨hl4, hk3a, hk3b⟩ := cel_of (wf_5 hw h_p1) hx
  have hk3 : (T x).1 = 1 := hk3a (by omega)
  clear hk3a hk3b
  have hk3i : IA T x := by unfold IA; omega
  refine tn_callV (M := m_X8_leansOnLost) (pc := 3) (ix := 166) (ci := 1) (M' := m_X1_get) (As := [.int (iI p2), .int (iI 0)]) (rest := []) dX8_leansOnLost_3 ok_X1_get im_X1_get se_X1_get ml8_166 np_X1_get rfl rfl h_p1 rfl (Nat.le_of_ble_eq_true rfl) (Nat.le_of_ble_eq_true rfl) rfl (k_X1_get_x (d + 1) (T := T) (σ := σ) (a := p1) (k := p2) (c := 0) (x := x) (n := n) (W := W) h_p1 (by omega) (by decide) hw (hx) (hn) hW (by omega) (by omega)) (fun r5 T7 σ6 gt8 hp => ?_)
  obtain ⟨v11, rfl, rfl, rfl, f9, f10⟩ := hp
  clear gt8
  show Tn _ _ 6 T σ [(0, .ref a), (1, .ref p1), (2, .int (iI p2)), (3, .int (iI p3))] [.int (iI v11)] _
  refine tn_bipush dX8_leansOnLost_6 (by decide) ?_
  refine tn_icmp_ne (tgt := 23) dX8_leansOnLost_8 (by decide) ⟨by omega, by omega⟩ ⟨by decide, by decide⟩ (fun h12 => ?_) (fun h12 => ?_)
  · refine tn_iconst dX8_leansOnLost_23 ?_
    exact tn_zret (v := 0) rfl (by decide) dX8_leansOnLost_24 ⟨_, rfl, rfl, rfl, by omega, (Or.inr ⟨rfl, fun z => by have z1 := z.1; omega⟩)⟩
  · refine tn_aload_n dX8_leansOnLost_11 rfl 1 rfl ?_
    refine tn_iload_n dX8_leansOnLost_12 rfl 2 rfl ?_
    refine tn_bipush dX8_leansOnLost_13 (by decide) ?_
    refine tn_callV (M := m_X8_leansOnLost) (pc := 15) (ix := 166) (ci := 1) (M' := m_X1_get) (As := [.int (iI p2), .int (iI 11)]) (rest := []) dX8_leansOnLost_15 ok_X1_get im_X1_get se_X1_get ml8_166 np_X1_get rfl rfl h_p1 rfl (Nat.le_of_ble_eq_true rfl) (Nat.le_of_ble_eq_true rfl) rfl (k_X1_get_x (d + 1) (T := T) (σ := σ) (a := p1) (k := p2) (c := 11) (x := x) (n := n) (W := W) h_p1 (by omega) (by decide) hw (hx) (hn) hW (by omega) (by omega)) (fun r13 T15 σ14 gt16 hp => ?_)
    obtain ⟨v19, rfl, rfl, rfl, f17, f18⟩ := hp
    clear gt16
    show Tn _ _ 18 T σ [(0, .ref a), (1, .ref p1), (2, .int (iI p2)), (3, .int (iI p3))] [.int (iI v19)] _
    refine tn_bipush dX8_leansOnLost_18 (by decide) ?_
    refine tn_icmp_lt (tgt := 25) dX8_leansOnLost_20 (by decide) ⟨by omega, by omega⟩ ⟨by decide, by decide⟩ (fun h20 => ?_) (fun h20 => ?_)
    · refine tn_iconst dX8_leansOnLost_25 ?_
      refine tn_istore (L' := [(4, .int (iI 0)), (0, .ref a), (1, .ref p1), (2, .int (iI p2)), (3, .int (iI p3))]) dX8_leansOnLost_26 (by decide) rfl ?_
      refine tn_sub [1, 2, 3, 4, 0] rfl (l_X8_leansOnLost_x_28 (d) (T := T) (σ := σ) (a := a) (rx1 := p1) (c2 := p2) (c3 := p3) (x := x) (n := n) (W := (W)) (xy := xy) (Ly := (Ly)) ha h_p1 t_p1 (by omega) (by omega) hw (by omega) (by omega) (hx) (hn) hW (hxy) hLy hN (fun i421 r27 f28 f29 f30 => ?_) (fun i431 r37 f38 f39 f40 => ?_) _ (0) (by omega) (fun r a b => by omega) (by omega) rfl)
      · show Tn _ _ 57 T σ [(0, .ref a), (1, .ref p1), (2, .int (iI p2)), (3, .int (iI p3)), (4, .int (iI i421))] [] _
        refine tn_iconst dX8_leansOnLost_57 ?_
        exact tn_zret (v := 1) rfl (by decide) dX8_leansOnLost_58 ⟨_, rfl, rfl, rfl, by omega, (Or.inl ⟨rfl, ⟨by omega, by omega⟩, f30⟩)⟩
      · show Tn _ _ 65 T σ [(0, .ref a), (1, .ref p1), (2, .int (iI p2)), (3, .int (iI p3)), (4, .int (iI i431))] [] _
        refine tn_iconst dX8_leansOnLost_65 ?_
        exact tn_zret (v := 0) rfl (by decide) dX8_leansOnLost_66 ⟨_, rfl, rfl, rfl, by omega, (Or.inr ⟨rfl, fun z => z.2.elim (fun r e => f40 r e.1.1 e.1.2 ⟨e.2.1, e.2.2⟩)⟩)⟩
    · refine tn_iconst dX8_leansOnLost_23 ?_
      exact tn_zret (v := 0) rfl (by decide) dX8_leansOnLost_24 ⟨_, rfl, rfl, rfl, by omega, (Or.inr ⟨rfl, fun z => by have z1 := z.1; omega⟩)⟩
end
section
def rn1 (nb : Int → Int) (i : It) : It := if i 0 ≤ 5 ∨ i 0 = 10 then uZ i 1 (nb (i 1)) else i
def rn2 (nb : Int → Int) (i : It) : It := if i 0 = 12 ∧ i 11 = 2 then uZ i 4 (nb (i 4)) else i
def rn3 (nb : Int → Int) (i : It) : Nat → It
  | 0 => i
  | j + 1 => if rn3 nb i j (3 + 2 * (j : Int)) = 2 then uZ (rn3 nb i j) (4 + 2 * (j : Int)) (nb (rn3 nb i j (4 + 2 * (j : Int)))) else rn3 nb i j
theorem rn3_c {nb : Int → Int} {i : It} (j : Nat) (c : Int) : rn3 nb i j c = dI (∃ m : Int, (0 ≤ m ∧ m < j) ∧ c = 4 + 2 * m ∧ i (c - 1) = 2) (nb (i c)) (i c) := by
  induction j generalizing c with
  | zero => rw [dI_n (fun ⟨m, a, _⟩ => by omega)]; rfl
  | succ j ih =>
    have e3 : rn3 nb i j (3 + 2 * (j : Int)) = i (3 + 2 * (j : Int)) := by rw [ih, dI_n (fun ⟨m, a, b, _⟩ => by omega)]
    have e4 : rn3 nb i j (4 + 2 * (j : Int)) = i (4 + 2 * (j : Int)) := by rw [ih, dI_n (fun ⟨m, a, b, _⟩ => by omega)]
    show (if rn3 nb i j (3 + 2 * (j : Int)) = 2 then uZ (rn3 nb i j) (4 + 2 * (j : Int)) (nb (rn3 nb i j (4 + 2 * (j : Int)))) else rn3 nb i j) c = _
    rw [e3, e4]
    by_cases q : i (3 + 2 * (j : Int)) = 2
    · rw [if_pos q]
      by_cases z : c = 4 + 2 * (j : Int)
      · rw [z, uZ_eq, dI_y ⟨(j : Int), by omega, rfl, by rw [show 4 + 2 * (j : Int) - 1 = 3 + 2 * (j : Int) by omega]; exact q⟩]
      · rw [uZ_ne z, ih]
        by_cases y : ∃ m : Int, (0 ≤ m ∧ m < j) ∧ c = 4 + 2 * m ∧ i (c - 1) = 2
        · obtain ⟨m, a, b⟩ := y
          rw [dI_y ⟨m, a, b⟩, dI_y ⟨m, by omega, b⟩]
        · rw [dI_n y, dI_n (fun ⟨m, a, b, d⟩ => y ⟨m, by omega, b, d⟩)]
    · rw [if_neg q, ih]
      by_cases y : ∃ m : Int, (0 ≤ m ∧ m < j) ∧ c = 4 + 2 * m ∧ i (c - 1) = 2
      · obtain ⟨m, a, b⟩ := y
        rw [dI_y ⟨m, a, b⟩, dI_y ⟨m, by omega, b⟩]
      · have ny : ¬ ∃ m : Int, (0 ≤ m ∧ m < ((j + 1 : Nat) : Int)) ∧ c = 4 + 2 * m ∧ i (c - 1) = 2 := fun ⟨m, a, b, d⟩ => by
          by_cases w : m = (j : Int)
          · rw [b, w, show 4 + 2 * (j : Int) - 1 = 3 + 2 * (j : Int) by omega] at d; exact q d
          · exact y ⟨m, by omega, b, d⟩
        rw [dI_n y, dI_n ny]
theorem rn12_c {nb : Int → Int} {i : It} (c : Int) : rn2 nb (rn1 nb i) c = if c = 1 ∧ (i 0 ≤ 5 ∨ i 0 = 10) then nb (i 1) else if c = 4 ∧ i 0 = 12 ∧ i 11 = 2 then nb (i 4) else i c := by
  unfold rn2 rn1
  by_cases a : i 0 ≤ 5 ∨ i 0 = 10
  · rw [if_pos a, show uZ i 1 (nb (i 1)) 0 = i 0 from uZ_ne (by decide), if_neg (fun q => by omega)]
    by_cases z : c = 1
    · rw [z, uZ_eq, if_pos ⟨rfl, a⟩]
    · rw [uZ_ne z, if_neg (fun q => z q.1), if_neg (fun q => by omega)]
  · rw [if_neg a]
    by_cases b : i 0 = 12 ∧ i 11 = 2
    · rw [if_pos b]
      by_cases z : c = 4
      · rw [z, uZ_eq, if_neg (fun q => a q.2), if_pos ⟨rfl, b⟩]
      · rw [uZ_ne z, if_neg (fun q => a q.2), if_neg (fun q => z q.1)]
    · rw [if_neg b, if_neg (fun q => a q.2), if_neg (fun q => b q.2)]
def rnK (nb : Int → Int) (i : It) : It := rn3 nb (rn2 nb (rn1 nb i)) 4
theorem rnK_c {nb : Int → Int} {i : It} (c : Int) : rnK nb i c = if (c = 4 ∨ c = 6 ∨ c = 8 ∨ c = 10) ∧ i (c - 1) = 2 then nb (rn2 nb (rn1 nb i) c) else rn2 nb (rn1 nb i) c := by
  unfold rnK
  rw [rn3_c]
  by_cases q : (c = 4 ∨ c = 6 ∨ c = 8 ∨ c = 10)
  · have e : rn2 nb (rn1 nb i) (c - 1) = i (c - 1) := by rw [rn12_c, if_neg (fun z => by omega), if_neg (fun z => by omega)]
    by_cases p : i (c - 1) = 2
    · rw [if_pos ⟨q, p⟩, dI_y ⟨(c - 4) / 2, by omega, by omega, by rw [e]; exact p⟩]
    · rw [if_neg (fun z => p z.2), dI_n (fun ⟨m, _, _, z⟩ => p (by rw [← e]; exact z))]
  · rw [if_neg (fun z => q z.1), dI_n (fun ⟨m, a, b, _⟩ => q (by omega))]
theorem rnK_0 {nb : Int → Int} {i : It} : rnK nb i 0 = i 0 := by
  rw [rnK_c, if_neg (fun z => by omega), rn12_c, if_neg (fun z => by omega), if_neg (fun z => by omega)]
theorem rnK_11 {nb : Int → Int} {i : It} : rnK nb i 11 = i 11 := by
  rw [rnK_c, if_neg (fun z => by omega), rn12_c, if_neg (fun z => by omega), if_neg (fun z => by omega)]
theorem rnK_k {nb : Int → Int} {i : It} {c : Int} (h : c ≠ 1 ∧ c ≠ 4 ∧ c ≠ 6 ∧ c ≠ 8 ∧ c ≠ 10) : rnK nb i c = i c := by
  rw [rnK_c, if_neg (fun z => by omega), rn12_c, if_neg (fun z => by omega), if_neg (fun z => by omega)]
theorem rnK_1 {nb : Int → Int} {i : It} : rnK nb i 1 = if i 0 ≤ 5 ∨ i 0 = 10 then nb (i 1) else i 1 := by
  rw [rnK_c, if_neg (fun z => by omega), rn12_c]
  by_cases a : i 0 ≤ 5 ∨ i 0 = 10
  · rw [if_pos ⟨rfl, a⟩, if_pos a]
  · rw [if_neg (fun z => a z.2), if_neg (fun z => by omega), if_neg a]
theorem rnK_o {nb : Int → Int} {i : It} {c : Int} (h : c = 6 ∨ c = 8 ∨ c = 10) : rnK nb i c = if i (c - 1) = 2 then nb (i c) else i c := by
  have e : rn2 nb (rn1 nb i) c = i c := by rw [rn12_c, if_neg (fun z => by omega), if_neg (fun z => by omega)]
  rw [rnK_c, e]
  by_cases a : i (c - 1) = 2
  · rw [if_pos ⟨by omega, a⟩, if_pos a]
  · rw [if_neg (fun z => a z.2), if_neg a]
theorem rnK_4 {nb : Int → Int} {i : It} (h : iOK i) : rnK nb i 4 = if i 3 = 2 ∨ (i 0 = 12 ∧ i 11 = 2) then nb (i 4) else i 4 := by
  have e : rn2 nb (rn1 nb i) 4 = if i 0 = 12 ∧ i 11 = 2 then nb (i 4) else i 4 := by
    rw [rn12_c, if_neg (fun z => by omega)]
    by_cases b : i 0 = 12 ∧ i 11 = 2
    · rw [if_pos ⟨rfl, b⟩, if_pos b]
    · rw [if_neg (fun z => b z.2), if_neg b]
  rw [rnK_c, e, show (4 : Int) - 1 = 3 by decide]
  by_cases b : i 0 = 12 ∧ i 11 = 2
  · have z := h.2.2.2.2 b.1 (Or.inr b.2)
    rw [if_neg (fun y => by omega), if_pos b, if_pos (Or.inr b)]
  · rw [if_neg b]
    by_cases a : i 3 = 2
    · rw [if_pos ⟨by omega, a⟩, if_pos (Or.inl a)]
    · rw [if_neg (fun z => a z.2), if_neg (fun z => z.elim a b)]
theorem rn_nrm {nb : Int → Int} {i : It} (h : iOK i) : nrm (rnK nb i) = rnI nb (nrm i) := by
  funext c
  have n0 : nrm i 0 = i 0 := nrm_ne (by decide) (by decide)
  have n1 : nrm i 1 = i 1 := nrm_ne (by decide) (by decide)
  unfold rnI
  rw [n0, n1]
  by_cases c12 : c = 12
  · subst c12
    rw [nrm_12, if_neg (fun z => by omega), if_neg (fun z => by omega), nrm_12]
  by_cases c3 : c = 3
  · subst c3
    rw [if_neg (fun z => by omega), if_neg (fun z => by omega)]
    unfold nrm
    rw [rnK_0, rnK_11, rnK_k (by decide)]
  rw [nrm_ne c3 c12, nrm_ne c3 c12]
  by_cases c1 : c = 1
  · subst c1
    rw [rnK_1]
    by_cases a : i 0 ≤ 5 ∨ i 0 = 10
    · rw [if_pos a, if_pos ⟨rfl, a⟩]
    · rw [if_neg a, if_neg (fun z => a z.2), if_neg (fun z => by omega)]
  rw [if_neg (fun z => c1 z.1)]
  by_cases c4 : c = 4
  · subst c4
    rw [rnK_4 h, show (4 : Int) - 1 = 3 by decide]
    have e : nrm i 3 = 2 ↔ (i 3 = 2 ∨ (i 0 = 12 ∧ i 11 = 2)) := by
      by_cases b : i 0 = 12 ∧ (i 11 = 1 ∨ i 11 = 2)
      · have z := h.2.2.2.2 b.1 b.2
        rw [nrm_b b.1 b.2]
        exact ⟨fun y => Or.inr ⟨b.1, y⟩, fun y => y.elim (fun y => by omega) (fun y => y.2)⟩
      · have e3 : nrm i 3 = i 3 := by
          unfold nrm
          rw [if_neg (fun q => b q.2), if_neg (by decide)]
        rw [e3]
        exact ⟨Or.inl, fun y => y.elim id (fun y => absurd ⟨y.1, Or.inr y.2⟩ b)⟩
    by_cases a : i 3 = 2 ∨ (i 0 = 12 ∧ i 11 = 2)
    · rw [if_pos a, if_pos ⟨by omega, e.mpr a⟩]
    · rw [if_neg a, if_neg (fun z => a (e.mp z.2))]
  by_cases co : c = 6 ∨ c = 8 ∨ c = 10
  · rw [rnK_o co, nrm_ne (i := i) (c := c - 1) (by omega) (by omega)]
    by_cases a : i (c - 1) = 2
    · rw [if_pos a, if_pos ⟨by omega, a⟩]
    · rw [if_neg a, if_neg (fun z => a z.2)]
  · rw [rnK_k (by omega), if_neg (fun z => by omega)]
theorem iOK_rn {nb : Int → Int} {i : It} (h : iOK i) (hb : ∀ g, (wrT i g ∨ rdI (nrm i) g) → 0 ≤ nb g ∧ nb g < 192) : iOK (rnK nb i) := by
  have n4 : nrm i 4 = i 4 := nrm_ne (by decide) (by decide)
  have r6 : ∀ c, c = 6 ∨ c = 8 ∨ c = 10 → i (c - 1) = 2 → 0 ≤ nb (i c) ∧ nb (i c) < 192 := fun c hc e => hb _ (Or.inr (rdI_iff.mpr (by
    rcases hc with rfl | rfl | rfl
    · exact Or.inr (Or.inl ⟨by rw [nrm_ne (by decide) (by decide)]; exact e, by rw [nrm_ne (by decide) (by decide)]⟩)
    · exact Or.inr (Or.inr (Or.inl ⟨by rw [nrm_ne (by decide) (by decide)]; exact e, by rw [nrm_ne (by decide) (by decide)]⟩))
    · exact Or.inr (Or.inr (Or.inr ⟨by rw [nrm_ne (by decide) (by decide)]; exact e, by rw [nrm_ne (by decide) (by decide)]⟩)))))
  have r4 : i 3 = 2 ∨ (i 0 = 12 ∧ i 11 = 2) → 0 ≤ nb (i 4) ∧ nb (i 4) < 192 := fun q => hb _ (Or.inr (rdI_iff.mpr (Or.inl ⟨by
    by_cases b : i 0 = 12 ∧ (i 11 = 1 ∨ i 11 = 2)
    · have z := h.2.2.2.2 b.1 b.2
      rw [nrm_b b.1 b.2]
      omega
    · unfold nrm
      rw [if_neg (fun q => b q.2), if_neg (by decide)]
      exact q.elim id (fun y => absurd ⟨y.1, Or.inr y.2⟩ b), n4⟩)))
  have k3 := h.kd (c := 3) (by omega)
  have k5 := h.kd (c := 5) (by omega)
  have k7 := h.kd (c := 7) (by omega)
  have k9 := h.kd (c := 9) (by omega)
  have e4 := rnK_4 (nb := nb) h
  have e6 := rnK_o (nb := nb) (i := i) (c := 6) (by omega)
  have e8 := rnK_o (nb := nb) (i := i) (c := 8) (by omega)
  have e10 := rnK_o (nb := nb) (i := i) (c := 10) (by omega)
  rw [show (6 : Int) - 1 = 5 by decide] at e6
  rw [show (8 : Int) - 1 = 7 by decide] at e8
  rw [show (10 : Int) - 1 = 9 by decide] at e10
  have f3 : rnK nb i 3 = i 3 := rnK_k (by decide)
  have f5 : rnK nb i 5 = i 5 := rnK_k (by decide)
  have f7 : rnK nb i 7 = i 7 := rnK_k (by decide)
  have f9 : rnK nb i 9 = i 9 := rnK_k (by decide)
  refine ⟨by rw [rnK_0]; exact h.1, fun q => ?_, iOK.ops ?_ ?_ ?_ ?_, fun q => ?_, fun q1 q2 => ?_⟩
  · rw [rnK_0] at q
    rw [rnK_1, if_pos q]
    exact hb _ (Or.inl ⟨q, rfl⟩)
  · rw [f3]
    exact ⟨k3, fun e => by rw [e4, if_pos (Or.inl e)]; exact r4 (Or.inl e)⟩
  · rw [f5]
    exact ⟨k5, fun e => by rw [e6, if_pos e]; exact r6 6 (by omega) e⟩
  · rw [f7]
    exact ⟨k7, fun e => by rw [e8, if_pos e]; exact r6 8 (by omega) e⟩
  · rw [f9]
    exact ⟨k9, fun e => by rw [e10, if_pos e]; exact r6 10 (by omega) e⟩
  · rw [f7, f9]
    rw [rnK_0] at q
    exact h.2.2.2.1 q
  · rw [rnK_0] at q1
    rw [rnK_11] at q2
    have z := h.2.2.2.2 q1 q2
    rw [f3, f5, rnK_11]
    refine ⟨z.1, z.2.1, ?_, fun e => ?_⟩
    · rw [e6, if_neg (by omega)]; exact z.2.2.1
    · rw [e4, if_pos (Or.inr ⟨q1, e⟩)]; exact r4 (Or.inr ⟨q1, e⟩)
theorem rn_wA {nb : Int → Int} {V V1 : Int → It} {k y : Int} (e : V1 = uZ V k (uZ (V k) 1 y)) (h : V k 0 ≤ 5 ∨ V k 0 = 10) (hy : y = nb (V k 1)) : V1 = uZ V k (rn2 nb (rn1 nb (V k))) := by
  rw [e, hy]
  unfold rn2 rn1
  rw [if_pos h, if_neg (fun q => by have := q.1; rw [uZ_ne (by decide)] at this; omega)]
theorem rn_wB {nb : Int → Int} {V V1 : Int → It} {k y : Int} (e : V1 = uZ V k (uZ (V k) 4 y)) (h : V k 0 = 12 ∧ V k 11 = 2) (hy : y = nb (V k 4)) : V1 = uZ V k (rn2 nb (rn1 nb (V k))) := by
  rw [e, hy]
  unfold rn2 rn1
  rw [if_neg (show ¬ (V k 0 ≤ 5 ∨ V k 0 = 10) by omega), if_pos h]
theorem rn_wC {nb : Int → Int} {V : Int → It} {k : Int} (h : ¬ (V k 0 ≤ 5 ∨ V k 0 = 10)) (h2 : ¬ (V k 0 = 12 ∧ V k 11 = 2)) : V = uZ V k (rn2 nb (rn1 nb (V k))) := by
  unfold rn2 rn1
  rw [if_neg h, if_neg h2]
  exact uZ_self rfl
def RN3 (W1 V : Int → It) (nb : Int → Int) (k c : Int) : Prop := ∃ m : Nat, c = 3 + 2 * (m : Int) ∧ m ≤ 4 ∧ V = uZ W1 k (rn3 nb (W1 k) m)
section RN3S
variable {W1 V V2 : Int → It} {nb : Int → Int} {k c y z : Int}
theorem RN3.nil : RN3 W1 W1 nb k 3 := ⟨0, by decide, by decide, uZ_self rfl⟩
theorem RN3.num (h : RN3 W1 V nb k c) : c = 3 ∨ c = 5 ∨ c = 7 ∨ c = 9 ∨ c = 11 := by
  obtain ⟨m, a, b, -⟩ := h
  omega
theorem RN3.kc (h : RN3 W1 V nb k c) : V k c = W1 k c := by
  obtain ⟨m, a, b, e⟩ := h
  rw [e, uZ_eq, rn3_c, dI_n (fun ⟨j, x, y, _⟩ => by omega)]
theorem RN3.kc1 (h : RN3 W1 V nb k c) : V k (c + 1) = W1 k (c + 1) := by
  obtain ⟨m, a, b, e⟩ := h
  rw [e, uZ_eq, rn3_c, dI_n (fun ⟨j, x, y, _⟩ => by omega)]
theorem RN3.no (h : RN3 W1 V nb k c) (hc : c < 11) (q : V k c ≠ 2) : RN3 W1 V nb k (c + 2) := by
  obtain ⟨m, a, b, e⟩ := h
  refine ⟨m + 1, by omega, by omega, ?_⟩
  rw [e]
  congr 1
  show _ = (if rn3 nb (W1 k) m (3 + 2 * (m : Int)) = 2 then _ else rn3 nb (W1 k) m)
  rw [e, uZ_eq, a] at q
  rw [if_neg q]
theorem RN3.yes (h : RN3 W1 V nb k c) (hc : c < 11) (q : V k c = 2) (hy : y = nb (V k (c + 1))) (e2 : V2 = uZ V k (uZ (V k) (c + 1) y)) : RN3 W1 V2 nb k (c + 2) := by
  obtain ⟨m, a, b, e⟩ := h
  refine ⟨m + 1, by omega, by omega, ?_⟩
  rw [e, uZ_eq] at q hy
  rw [e2, e, uZ_eq, uZ_uZ]
  congr 1
  show _ = (if rn3 nb (W1 k) m (3 + 2 * (m : Int)) = 2 then uZ (rn3 nb (W1 k) m) (4 + 2 * (m : Int)) (nb (rn3 nb (W1 k) m (4 + 2 * (m : Int)))) else rn3 nb (W1 k) m)
  rw [← a, if_pos q, hy, show c + 1 = 4 + 2 * (m : Int) by omega]
theorem RN3.fin (h : RN3 W1 V nb k c) (hc : 11 ≤ c) : V = uZ W1 k (rn3 nb (W1 k) 4) := by
  obtain ⟨m, a, b, e⟩ := h
  have : m = 4 := by omega
  rw [this] at e
  exact e
end RN3S
theorem rn_op {nb : Int → Int} {V W1 : Int → It} {k : Int} (h : iOK (V k)) (e : W1 = uZ V k (rn2 nb (rn1 nb (V k)))) {c : Int} (hc : c = 3 ∨ c = 5 ∨ c = 7 ∨ c = 9) (q : W1 k c = 2) : 0 ≤ W1 k (c + 1) ∧ W1 k (c + 1) < 192 := by
  rw [e, uZ_eq, rn12_c, if_neg (fun z => by omega), if_neg (fun z => by omega)] at q
  rw [e, uZ_eq, rn12_c, if_neg (fun z => by omega), if_neg (fun z => ?_)]
  · exact h.op hc q
  · have y := h.2.2.2.2 z.2.1 (Or.inr z.2.2)
    have c3 : c = 3 := by omega
    rw [c3] at q
    omega
def RNP (W W2 : Int → It) (nb : Int → Int) (i : Int) : Prop := ∀ k, W2 k = if 0 ≤ k ∧ k < i then rnK nb (W k) else W k
theorem RNP.nil {W : Int → It} {nb : Int → Int} : RNP W W nb 0 := fun k => by rw [if_neg (by omega)]
theorem RNP.at {W V : Int → It} {nb : Int → Int} {i k : Int} (h : RNP W V nb i) (hk : i ≤ k) : V k = W k := by rw [h k, if_neg (by omega)]
theorem RNP.step {W V V1 V2 : Int → It} {nb : Int → Int} {i c : Int} (h : RNP W V nb i) (h0 : 0 ≤ i) (e1 : V1 = uZ V i (rn2 nb (rn1 nb (V i)))) (g : RN3 V1 V2 nb i c) (hc : 11 ≤ c) : RNP W V2 nb (i + 1) := fun k => by
  rw [g.fin hc, e1, uZ_eq, uZ_uZ, h.at (Int.le_refl i)]
  by_cases e : k = i
  · rw [e, uZ_eq, if_pos (by omega)]; rfl
  · rw [uZ_ne e, h k]
    by_cases q : 0 ≤ k ∧ k < i
    · rw [if_pos q, if_pos (by omega)]
    · rw [if_neg q, if_neg (by omega)]
theorem RNP.to {W V : Int → It} {nb : Int → Int} {i t : Int} (h : RNP W V nb i) (e : i = t) : RNP W V nb t := by rw [← e]; exact h
def atR (R : Int → Int) (N i : Int) : Int := if 0 ≤ i ∧ i < N then R i else 0
theorem atq_r {R : Int → Int} {N i v : Int} (h : ATQ R N i v) : v = atR R N i := by
  unfold ATQ at h
  unfold atR
  rcases h with ⟨a, b⟩ | ⟨a, b⟩
  · rw [if_pos a]; exact b
  · rw [if_neg a]; exact b
theorem at_nb {R : Int → Int} {N i j v : Int} (h : ATQ R N i v) (hN : N = 192) (e : i = j) (hj : 0 ≤ j ∧ j < 192) : v = R j := by
  have z := atq_r h
  unfold atR at z
  rw [z, e, if_pos (by omega)]
def RHP (R R2 nb : Int → Int) (i : Int) : Prop := ∀ z, R2 z = if 0 ≤ z ∧ z < i then atR nb 192 (R z) else R z
theorem RHP.nil {R nb : Int → Int} : RHP R R nb 0 := fun k => by rw [if_neg (by omega)]
theorem RHP.step {R V V2 nb : Int → Int} {i N x y : Int} (h : RHP R V nb i) (h0 : 0 ≤ i ∧ i < N) (a1 : ATQ V N i x) (a2 : ATQ nb 192 x y) (e : V2 = uZ V i y) : RHP R V2 nb (i + 1) := fun k => by
  have e1 : x = R i := by
    have z := atq_r a1
    unfold atR at z
    rw [if_pos h0, h i, if_neg (by omega)] at z
    exact z
  have e2 := atq_r a2
  rw [e1] at e2
  by_cases q : k = i
  · rw [e, q, uZ_eq, if_pos (by omega)]; exact e2
  · rw [e, uZ_ne q, h k]
    by_cases w : 0 ≤ k ∧ k < i
    · rw [if_pos w, if_pos (by omega)]
    · rw [if_neg w, if_neg (by omega)]
theorem RHP.to {R V nb : Int → Int} {i t : Int} (h : RHP R V nb i) (e : i = t) : RHP R V nb t := by rw [← e]; exact h
def GNK (W : Int → It) (n : Int) : Prop := ∀ k, 0 ≤ k → k < n → W k 0 = 12 → 10 ≤ W k 11 → W k 3 ≠ 2 ∧ W k 5 ≠ 2
end
section
theorem LLQ.c {W W2 : Int → It} {n k N : Int} {L : Int → Int64} (e : W2 k = W k) : LLQ W2 n k N L ↔ LLQ W n k N L := by
  unfold LLQ lnW
  rw [e]
def UBP (W W2 : Int → It) (n N : Int) (L : Int → Int64) (R : Int → Int) (i : Int) : Prop := ∀ k, W2 k = dI ((0 ≤ k ∧ k < i) ∧ R k ≠ 0 ∧ LLQ W n k N L) (swI (W k) 13 0) (W k)
section UBPS
variable {W V V2 : Int → It} {n N i t : Int} {L : Int → Int64} {R : Int → Int}
theorem UBP.nil : UBP W W n N L R 0 := fun k => by rw [dI_n (fun q => by omega)]
theorem UBP.at {k : Int} (h : UBP W V n N L R i) (hk : i ≤ k) : V k = W k := by rw [h k, dI_n (fun q => by omega)]
theorem UBP.no (h : UBP W V n N L R i) (q : ¬ (R i ≠ 0 ∧ LLQ V n i N L)) : UBP W V n N L R (i + 1) := fun k => by
  rw [h k]
  refine dI_c ⟨fun z => ⟨by omega, z.2⟩, fun z => ⟨?_, z.2⟩⟩
  by_cases e : k = i
  · subst e
    exact absurd ⟨z.2.1, (LLQ.c (h.at (Int.le_refl k))).mpr z.2.2⟩ q
  · omega
theorem UBP.yes (h : UBP W V n N L R i) (h0 : 0 ≤ i) (q1 : R i ≠ 0) (q2 : LLQ V n i N L) (e : V2 = uZ V i (swI (V i) 13 0)) : UBP W V2 n N L R (i + 1) := fun k => by
  rw [e]
  by_cases z : k = i
  · subst z
    rw [uZ_eq, h.at (Int.le_refl k), dI_y ⟨by omega, q1, (LLQ.c (h.at (Int.le_refl k))).mp q2⟩]
  · rw [uZ_ne z, h k]
    exact dI_c ⟨fun y => ⟨by omega, y.2⟩, fun y => ⟨by omega, y.2⟩⟩
theorem UBP.to (h : UBP W V n N L R i) (e : i = t) : UBP W V n N L R t := by rw [← e]; exact h
theorem UBP.ok (h : UBP W V n N L R i) (hw : WOK W n) : WOK V n := fun k a b => by
  rw [h k]
  by_cases q : (0 ≤ k ∧ k < i) ∧ R k ≠ 0 ∧ LLQ W n k N L
  · rw [dI_y q]; exact iOK_sw (hw k a b) q.2.2.1.1 (fun e => absurd e (by decide))
  · rw [dI_n q]; exact hw k a b
theorem UBP.v {nb : Int → Int} {bg : Int → Prop} (h : UBP W V n N L (trR n R) n) (hw : WOK W n) (hg : GNK W n) (hr : ∀ k, 0 ≤ k → k < n → ∀ g, rdI (vW W k) g → 0 ≤ g ∧ g < N) (hl : LATE (vW W) n N nb bg L (trR n R)) : vW V = ubV (vW W) n nb bg := by
  funext k
  show nrm (V k) = _
  unfold ubV
  rw [h k]
  have key : ((0 ≤ k ∧ k < n) ∧ trR n R k ≠ 0 ∧ LLQ W n k N L) ↔ ((0 ≤ k ∧ k < n) ∧ vW W k 0 = 12 ∧ RCG (vW W) n 0 (fun _ => False) k ∧ ∃ u, rdI (vW W k) u ∧ lsV (vW W) n nb bg k u) := by
    constructor
    · rintro ⟨a, b, c, r, r1, r2, r3⟩
      have z := (lnW_iff (hw k a.1 a.2) a).mp r2
      exact ⟨a, by rw [vW_0]; exact z.1, (hl k).1.mp b, r, z.2, ((hl k).2 b r r1.1 r1.2).mp r3⟩
    · rintro ⟨a, b, c, u, u1, u2⟩
      rw [vW_0] at b
      have rk := (hl k).1.mpr c
      have un := hr k a.1 a.2 u u1
      have w := hw k a.1 a.2
      refine ⟨a, rk, ⟨b, ?_⟩, u, un, (lnW_iff w a).mpr ⟨b, u1⟩, ((hl k).2 rk u un.1 un.2).mpr u2⟩
      by_cases z : W k 11 < 10
      · exact z
      · have g := hg k a.1 a.2 b (by omega)
        have z4 := w.2.2.2.1 (by omega)
        have e3 : vW W k 3 = W k 3 := by
          show nrm (W k) 3 = _
          unfold nrm
          rw [if_neg (fun q => by have := q.2.2; omega), if_neg (by decide)]
        rw [rdI_iff, e3, vW_ne (c := 5) (by decide) (by decide), vW_ne (c := 7) (by decide) (by decide), vW_ne (c := 9) (by decide) (by decide)] at u1
        rcases u1 with y | y | y | y
        · exact absurd y.1 g.1
        · exact absurd y.1 g.2
        · exact absurd y.1 z4.1
        · exact absurd y.1 z4.2
  rw [← dI_c key]
  by_cases q : (0 ≤ k ∧ k < n) ∧ trR n R k ≠ 0 ∧ LLQ W n k N L
  · rw [dI_y q, dI_y q]
    exact nrm_go ⟨by decide, by decide⟩
  · rw [dI_n q, dI_n q]; rfl
end UBPS
theorem LVV.rx {V : Int → It} {n k g : Int} (h : LVV V n k g) : ∃ i, 0 ≤ i ∧ i < n ∧ rdI (V i) g := h (fun _ g => ∃ i, 0 ≤ i ∧ i < n ∧ rdI (V i) g) (fun i g a b q => q.elim (fun z => ⟨i, a, b, z.2⟩) (fun z => z.2.elim (fun t e => e.2)))
def pmC (Rh : Int → Int) (P g : Int) : Prop := ∃ j, 0 ≤ j ∧ j < P ∧ Rh j = g
def nbX (R : Int → Int) (q g : Int) : Int := if 0 ≤ g ∧ g < q then R g else 0
section SHCS
variable {W W2 W3 : Int → It} {n P q F v : Int} {Rh Rn R R2 : Int → Int} {La Lf Ld Lg Ly : Int → Int64} {g : Int}
theorem sh_bg (h0 : 0 ≤ n) (hL : LIVE (vW W) n La) (hf : FFP La Lf Rh P) (hg : 0 ≤ g ∧ g < 192) : bT Lf 0 g ↔ bgV (vW W) n (pmC Rh P) g := by
  rw [hf g]
  unfold bgV pmC
  rw [← hL 0 g]
  unfold bR
  constructor
  · rintro (z | ⟨j, a, b, c, _⟩)
    · exact Or.inr ⟨⟨Int.le_refl 0, h0⟩, z⟩
    · exact Or.inl ⟨j, a, b, c⟩
  · rintro (⟨j, a, b, c⟩ | z)
    · exact Or.inr ⟨j, a, b, c, hg⟩
    · exact Or.inl z.2
def RLT (W : Int → It) (n q : Int) (P : Int) (Rh : Int → Int) : Prop := (∀ g, pmC Rh P g → 0 ≤ g ∧ g < q) ∧ ∀ k, 0 ≤ k → k < n → ∀ g, wrT (vW W k) g ∨ rdI (vW W k) g → 0 ≤ g ∧ g < q
theorem RLT.mk (hm : rgV (vW W) n (hmC F Rn Rh) q) (hw : WOK W n) (hp : P ≤ Rn 0 ∧ 1 ≤ F) (hna : HNO Rn Rh F) : RLT W n q P Rh := by
  refine ⟨fun g ⟨j, a, b, c⟩ => ?_, fun k a b g z => ?_⟩
  · have x := hna 0 j (by decide) (by omega) a (by omega)
    have y := hm.1 g ⟨0, by decide, by omega, j, a, by omega, by rw [show 12 * 0 + j = j by omega]; exact c⟩
    rw [show 12 * 0 + j = j by omega, c] at x
    omega
  · have y := hm.2 k a b g z
    refine ⟨?_, y⟩
    have w := hw k a b
    rcases z with z | z
    · rw [wrT_v] at z
      have := w.2.1 z.1
      have := z.2
      omega
    · by_cases c : W k 0 = 12
      · have l := (lnW_iff (n := n) w ⟨a, b⟩).mpr ⟨c, z⟩
        rcases l.2.2 with ⟨x1, x2⟩ | ⟨x1, x2⟩
        · have := w.2.2.2.2 c (Or.inr x1)
          have := this.2.2.2 x1
          omega
        · rcases x2 with x2 | x2
          · have := w.op (c := 3) (by omega) x2.1
            rw [show (3 : Int) + 1 = 4 by decide] at this
            omega
          · have := w.op (c := 5) (by omega) x2.1
            rw [show (5 : Int) + 1 = 6 by decide] at this
            omega
      · rw [rdI_v c] at z
        obtain ⟨j, j0, j1, j2, j3⟩ := z
        have := (w.2.2.1 j j0 j1).2 j2
        omega
theorem RLT.bg (h : RLT W n q P Rh) (z : bgV (vW W) n (pmC Rh P) g) : 0 ≤ g ∧ g < q := by
  rcases z with z | z
  · exact h.1 g z
  · obtain ⟨i, a, b, c⟩ := z.rx
    exact h.2 i a b g (Or.inr c)
theorem RLT.lv (h : RLT W n q P Rh) {k : Int} (z : LVV (vW W) n k g) : 0 ≤ g ∧ g < q := by
  obtain ⟨i, a, b, c⟩ := z.rx
  exact h.2 i a b g (Or.inr c)
theorem RLT.od (h : RLT W n q P Rh) {x y : Int} (z : odV (vW W) n (pmC Rh P) x y) : (0 ≤ x ∧ x < q) ∧ 0 ≤ y ∧ y < q := by
  rcases z.2 with z | ⟨k, a, b, c, d⟩ | ⟨k, a, b, c, d⟩
  · exact ⟨h.bg z.1, h.bg z.2⟩
  · exact ⟨h.2 k a b x (Or.inl c), h.lv d⟩
  · exact ⟨h.lv d, h.2 k a b y (Or.inl c)⟩
theorem sh_od (h0 : 0 ≤ n) (hq : q ≤ 192) (hL : LIVE (vW W) n La) (hf : FFP La Lf Rh P) (h : ODP W q Lf La Ld q n) {x y : Int} (hx : 0 ≤ x ∧ x < q) (hy : 0 ≤ y ∧ y < q) : bT Ld x y ↔ odV (vW W) n (pmC Rh P) x y := by
  rw [h x y hx.1 hx.2]
  unfold odV odW
  rw [sh_bg h0 hL hf (g := x) (by omega), sh_bg h0 hL hf (g := y) (by omega)]
  have lv : ∀ i g, 0 ≤ i → i < n → (bT La (i + 1) g ↔ LVV (vW W) n (i + 1) g) := fun i g a b => by
    rw [← hL (i + 1) g]
    exact ⟨fun z => ⟨by omega, z⟩, fun z => z.2⟩
  constructor
  · rintro ⟨a, -, b | ⟨i, b, c⟩⟩
    · exact ⟨a, Or.inl ⟨b.1, b.2.1⟩⟩
    · refine ⟨a, Or.inr (c.imp (fun z => ⟨i, b.1, b.2, wrT_v.mpr z.1, (lv i _ b.1 b.2).mp z.2⟩) (fun z => ⟨i, b.1, b.2, wrT_v.mpr z.1, (lv i _ b.1 b.2).mp z.2⟩))⟩
  · rintro ⟨a, b | ⟨i, b, c, d, e⟩ | ⟨i, b, c, d, e⟩⟩
    · exact ⟨a, hy, Or.inl ⟨b.1, b.2, Or.inl hx.2⟩⟩
    · exact ⟨a, hy, Or.inr ⟨i, ⟨b, c⟩, Or.inl ⟨wrT_v.mp d, (lv i _ b c).mpr e⟩⟩⟩
    · exact ⟨a, hy, Or.inr ⟨i, ⟨b, c⟩, Or.inr ⟨wrT_v.mp d, (lv i _ b c).mpr e⟩⟩⟩
theorem sh_nb {od : Int → Int → Prop} (hq : q ≤ 192) (h : NAP Ld Lg R q q) (ho : ∀ x y, 0 ≤ x → x < q → 0 ≤ y → y < q → (bT Ld x y ↔ od x y)) (hz : ∀ x y, od x y → x < q) : nbV od 192 (nbX R q) := fun g a b => by
  have lo : ∀ g, 0 ≤ g → g < q → nbX R q g = R g := fun g x y => if_pos ⟨x, y⟩
  by_cases c : g < q
  · obtain ⟨h1, h2, h3⟩ := h.1 g a c
    rw [lo g a c]
    refine ⟨h1.1, fun b x y z => ?_, fun m x y => ?_⟩
    · rw [lo b x (by omega)]
      exact h2 b x y ((ho g b a c x (by omega)).mpr z)
    · obtain ⟨b, b0, b1, b2, b3⟩ := h3 m x y
      exact ⟨b, b0, b1, (ho g b a c b0 (by omega)).mp b2, by rw [lo b b0 (by omega)]; exact b3⟩
  · have e : nbX R q g = 0 := if_neg (by omega)
    rw [e]
    exact ⟨Int.le_refl 0, fun b x y z => absurd (hz g b z) c, fun m x y => by omega⟩
theorem nap_grp (h : NAP Ld Lg R q q) : GRP Lg R q := ⟨fun g a b => (h.1 g a b).1, fun l u a b => h.2 l u a b⟩
theorem rnI_c {f h : Int → Int} {i : It} (e : ∀ g, wrT i g ∨ rdI i g → f g = h g) : rnI f i = rnI h i := by
  funext c
  unfold rnI
  by_cases a : c = 1 ∧ (i 0 ≤ 5 ∨ i 0 = 10)
  · rw [if_pos a, if_pos a]; exact e _ (Or.inl ⟨a.2, rfl⟩)
  · rw [if_neg a, if_neg a]
    by_cases b : (c = 4 ∨ c = 6 ∨ c = 8 ∨ c = 10) ∧ i (c - 1) = 2
    · rw [if_pos b, if_pos b]
      refine e _ (Or.inr (rdI_iff.mpr ?_))
      rcases b with ⟨rfl | rfl | rfl | rfl, b2⟩
      · exact Or.inl ⟨b2, rfl⟩
      · exact Or.inr (Or.inl ⟨b2, rfl⟩)
      · exact Or.inr (Or.inr (Or.inl ⟨b2, rfl⟩))
      · exact Or.inr (Or.inr (Or.inr ⟨b2, rfl⟩))
    · rw [if_neg b, if_neg b]
theorem ub_rd {V : Int → It} {nb : Int → Int} {bg : Int → Prop} {k : Int} (h : wrT (ubV V n nb bg k) g ∨ rdI (ubV V n nb bg k) g) : wrT (V k) g ∨ rdI (V k) g := by
  unfold ubV at h
  by_cases q : (0 ≤ k ∧ k < n) ∧ V k 0 = 12 ∧ RCG V n 0 (fun _ => False) k ∧ ∃ u, rdI (V k) u ∧ lsV V n nb bg k u
  · rw [dI_y q] at h
    rcases h with h | h
    · have := h.1
      rw [show goI (V k) 13 0 = V k 0 from rfl] at this
      omega
    · rw [rdI_iff] at h
      rcases h with h | h | h | h
      · exact absurd h.1 (by rw [show goI (V k) 13 3 = 0 from rfl]; decide)
      · exact absurd h.1 (by rw [show goI (V k) 13 5 = 0 from rfl]; decide)
      · exact Or.inr (rdI_iff.mpr (Or.inr (Or.inr (Or.inl h))))
      · exact Or.inr (rdI_iff.mpr (Or.inr (Or.inr (Or.inr h))))
  · rw [dI_n q] at h; exact h
theorem ub_cong {V : Int → It} {f h : Int → Int} {bg : Int → Prop} (e : ∀ g, 0 ≤ g → g < q → f g = h g) (hr : ∀ k, 0 ≤ k → k < n → ∀ g, wrT (V k) g ∨ rdI (V k) g → 0 ≤ g ∧ g < q) : ubV V n f bg = ubV V n h bg := by
  funext k
  unfold ubV
  refine dI_c ⟨fun ⟨a, b, c, u, d, z⟩ => ⟨a, b, c, u, d, ?_⟩, fun ⟨a, b, c, u, d, z⟩ => ⟨a, b, c, u, d, ?_⟩⟩
  · have x := hr k a.1 a.2 u (Or.inr d)
    exact lsV.cong e (fun i p o w => hr i p o _ (Or.inl ⟨w, rfl⟩)) x.1 x.2 z
  · have x := hr k a.1 a.2 u (Or.inr d)
    exact lsV.cong (fun g p o => (e g p o).symm) (fun i p o w => hr i p o _ (Or.inl ⟨w, rfl⟩)) x.1 x.2 z
def SHC (W W3 : Int → It) (n P F : Int) (Rn Rh R2 : Int → Int) (v : Int) : Prop := ∃ nb, nbV (odV (vW W) n (pmC Rh P)) 192 nb ∧ (∀ g, 0 ≤ g → g < 192 → 0 ≤ nb g ∧ nb g < 192) ∧ vW W3 = shV (vW W) n nb (bgV (vW W) n (pmC Rh P)) ∧ (∀ f m, 0 ≤ f → f < F → 0 ≤ m → m < Rn f → R2 (12 * f + m) = nb (Rh (12 * f + m))) ∧ mxV (rgV (vW W3) n (hmC F Rn R2)) v
theorem sh_v (hq : 0 ≤ q ∧ q ≤ 192) (hw : WOK W n) (hw2 : WOK W2 n) (hr : RLT W n q P Rh) (hN : NAP Ld Lg R q q) (hz : ∀ k, ¬ (0 ≤ k ∧ k < n) → W3 k = zI) (hu : vW W2 = ubV (vW W) n R (bgV (vW W) n (pmC Rh P))) (h3 : RNP W2 W3 R n) : vW W3 = shV (vW W) n (nbX R q) (bgV (vW W) n (pmC Rh P)) := by
  have lo : ∀ g, 0 ≤ g → g < q → R g = nbX R q g := fun g x y => (if_pos ⟨x, y⟩).symm
  funext k
  unfold shV
  by_cases a : 0 ≤ k ∧ k < n
  · rw [if_pos a]
    show nrm (W3 k) = _
    rw [h3 k, if_pos a, rn_nrm (hw2 k a.1 a.2), show nrm (W2 k) = vW W2 k from rfl, hu, ub_cong lo hr.2]
    exact rnI_c (fun g z => by have y := hr.2 k a.1 a.2 g (ub_rd z); exact lo g y.1 y.2)
  · rw [if_neg a]
    show nrm (W3 k) = _
    rw [hz k a]
    funext c
    unfold nrm zI
    by_cases c3 : c = 3 ∧ (0 : Int) = 12 ∧ ((0 : Int) = 1 ∨ (0 : Int) = 2)
    · rw [if_pos c3]
    · rw [if_neg c3]
      split <;> rfl
theorem sh_ok (hw2 : WOK W2 n) (hq : q ≤ 192) (hr : ∀ k, 0 ≤ k → k < n → ∀ g, wrT (vW W2 k) g ∨ rdI (vW W2 k) g → 0 ≤ g ∧ g < q) (hN : NAP Ld Lg R q q) (h3 : RNP W2 W3 R n) : WOK W3 n := fun k a b => by
  rw [h3 k, if_pos ⟨a, b⟩]
  refine iOK_rn (hw2 k a b) (fun g z => ?_)
  have y := hr k a b g (z.imp wrT_v.mpr id)
  have x := (hN.1 g y.1 y.2).1
  omega
theorem sh_na (hN : NAP Ld Lg R q q) (hq : q ≤ 192) (hm : ∀ f m, 0 ≤ f → f < F → 0 ≤ m → m < Rn f → 0 ≤ Rh (12 * f + m) ∧ Rh (12 * f + m) < q) (hF : ∀ f, 0 ≤ f → f < F → Rn f ≤ 12) (h : RHP Rh R2 R (12 * F)) : ∀ f m, 0 ≤ f → f < F → 0 ≤ m → m < Rn f → R2 (12 * f + m) = nbX R q (Rh (12 * f + m)) ∧ 0 ≤ R2 (12 * f + m) ∧ R2 (12 * f + m) < 192 := fun f m a b c d => by
  have x := hm f m a b c d
  have y := hF f a b
  rw [h, if_pos (by omega)]
  unfold atR nbX
  rw [if_pos (by omega), if_pos x]
  have z := (hN.1 _ x.1 x.2).1
  exact ⟨rfl, by omega⟩
end SHCS
def NQ (x y : Nat) : Prop := x ≠ y
theorem NQ.s {x y : Nat} (h : NQ x y) : NQ y x := fun e => h e.symm
theorem cw_z {σ : MS} {x : Nat} {n k : Int} (h : ¬ (0 ≤ k ∧ k < n)) : cW σ x n k = zI := funext (fun _ => (cW_out h).symm)
theorem nap_b {O G : Int → Int64} {R : Int → Int} {q : Int} (hq : q ≤ 192) (h : NAP O G R q q) : ∀ g, 0 ≤ g → g < 192 → 0 ≤ nbX R q g ∧ nbX R q g < 192 := fun g a b => by
  unfold nbX
  by_cases c : 0 ≤ g ∧ g < q
  · rw [if_pos c]; have := (h.1 g c.1 c.2).1; omega
  · rw [if_neg c]; omega
theorem SHC.mk {W W2 W3 : Int → It} {n P q F : Int} {Rh Rn R R2 Rr : Int → Int} {La Lf Ld Lg Ly : Int → Int64} (h0 : 0 ≤ n) (hq : 0 ≤ q ∧ q ≤ 192) (hw : WOK W n) (hg : GNK W n) (hna : HNO Rn Rh F) (hp : P ≤ Rn 0 ∧ 1 ≤ F) (hF : ∀ f, 0 ≤ f → f < F → Rn f ≤ 12) (hm : rgV (vW W) n (hmC F Rn Rh) q) (hL : LIVE (vW W) n La) (hf : FFP La Lf Rh P) (ho : ODP W q Lf La Ld q n) (hN : NAP Ld Lg R q q) (hl : LATE (vW W) n q R (bgV (vW W) n (pmC Rh P)) Ly (trR n Rr)) (hu : UBP W W2 n q Ly (trR n Rr) n) (hz : ∀ k, ¬ (0 ≤ k ∧ k < n) → W3 k = zI) (h3 : RNP W2 W3 R n) (h4 : RHP Rh R2 R (12 * F)) : WOK W3 n ∧ HNO Rn R2 F ∧ ∀ v, mxV (rgV (vW W3) n (hmC F Rn R2)) v → SHC W W3 n P F Rn Rh R2 v := by
  have hr : RLT W n q P Rh := RLT.mk hm hw hp hna
  have hw2 := hu.ok hw
  have huv := hu.v hw hg (fun k a b g z => hr.2 k a b g (Or.inr z)) hl
  have na := sh_na hN hq.2 (fun f m a b c d => ⟨(hna f m a b c d).1, hm.1 _ ⟨f, a, b, m, c, d, rfl⟩⟩) hF h4
  refine ⟨sh_ok hw2 hq.2 (fun k a b g z => hr.2 k a b g (ub_rd (by rw [huv] at z; exact z))) hN h3, fun f m a b c d => (na f m a b c d).2, fun v mv => ⟨nbX R q, ?_, nap_b hq.2 hN, sh_v hq hw hw2 hr hN hz huv h3, fun f m a b c d => (na f m a b c d).1, mv⟩⟩
  exact sh_nb hq.2 hN (fun x y a b c d => sh_od h0 hq.2 hL hf ho ⟨a, b⟩ ⟨c, d⟩) (fun x y z => (hr.od z).1.2)
end
section
set_option maxHeartbeats 1000000 in
set_option maxRecDepth 20000 in
theorem l_X8_renumber_x_2 (d : Nat) {T : CT} {σ0 : MS} {a : Nat} {rx1 : Nat} {x : Nat} {n : Int} {W : Int → It} {Fq : Int} {xh : Nat} {Rh : Int → Int} {xm_ : Nat} {Rm : Int → Int} {post : Option Value → CT → MS → Prop} (h_a : OB T a 8) (h_rx1 : OB T rx1 1) (t_rx1 : (T rx1).1 = 50) (hw0 : WT T σ0) (hx : σ0.2.1 5 rx1 = (x : Int)) (hn : σ0.2.1 6 rx1 = n) (hFq : σ0.2.1 10 rx1 = Fq) (hxh : σ0.2.1 15 rx1 = (xh : Int)) (hxm_ : σ0.2.1 75 a = (xm_ : Int)) (hRm : σ0.2.1 (1000 + xm_) = Rm) (hN : n ≤ 200) (hne : x ≠ xh ∧ x ≠ xm_ ∧ xh ≠ xm_) (hx_42 : ∀ (i2 : Int) (σ : MS) , (WT T σ) → (FrC T [] σ0 σ) → (0 ≤ i2 ∧ i2 ≤ 144) → (CHX [] [xh] [] σ0 σ) → (True) → (True) → (RHP Rh (σ.2.1 (1000 + xh)) Rm (12 * Fq)) → Tn (d + 3) m_X8_renumber 42 T σ [(0, .ref a), (1, .ref rx1), (2, .int (iI i2))] [] post) : ∀ (nq9 : Nat) (i2 : Int) (σ : MS) , (WT T σ) → (FrC T [] σ0 σ) → (0 ≤ i2 ∧ i2 ≤ 144) → (CHX [] [xh] [] σ0 σ) → (RHP Rh (σ.2.1 (1000 + xh)) Rm i2) → (i2 ≤ 12 * Fq ∧ 0 ≤ Fq ∧ Fq ≤ 12) → (2147483700 - i2).toNat = nq9 → Tn (d + 3) m_X8_renumber 2 T σ [(0, .ref a), (1, .ref rx1), (2, .int (iI i2))] [] post := by
  intro nq9
  induction nq9 using Nat.strongRecOn with
  | _ nq9 ih =>
    intro i2 σ hw hF r_i2 hC hH h2 hm
    refine tn_iload_n dX8_renumber_2 rfl 2 rfl ?_
    refine tn_aload_n dX8_renumber_3 rfl 1 rfl ?_
    refine tn_getI (ci := 1) (i := 5) (n := 10) (t := σ0.2.1 10 rx1) dX8_renumber_4 rfl lay_1 (by decide) fl8_172 h_rx1 rfl rfl (rc_F hF (Or.inl (by decide)) (by decide) (rfl)) ?_
    have g1 : ((0 : Int) ≤ σ0.2.1 10 rx1 ∧ σ0.2.1 10 rx1 ≤ 12) := wf_10 hw0 h_rx1
    refine tn_bipush dX8_renumber_7 (by decide) ?_
    refine tn_imul dX8_renumber_9 ?_
    refine tn_icmp_ge (tgt := 42) dX8_renumber_10 (by decide) ⟨by omega, by omega⟩ ⟨by omega, by omega⟩ (fun h2 => ?_) (fun h2 => ?_)
    · exact tn_sub [0, 1, 2] rfl (hx_42 (i2) σ hw (FrC.rfl.trans (FrC.sub hF (by decide))) (by omega) hC True.intro True.intro (hH.to (by omega)))
    · refine tn_aload_n dX8_renumber_13 rfl 1 rfl ?_
      obtain ⟨hk5, hl6⟩ : AR T xh 1 144 144 := ar_of (wf_15 hw0 h_rx1) hxh
      have hk5i : IA T xh := by unfold IA; omega
      refine tn_getR (ci := 1) (i := 10) (n := 15) (x := xh) dX8_renumber_14 rfl lay_1 (by decide) fl8_175 h_rx1 rfl rfl (rc_F hF (Or.inl (by decide)) (by decide) (hxh)) ?_
      refine tn_iload_n dX8_renumber_17 rfl 2 rfl ?_
      refine tn_aload_n dX8_renumber_18 rfl 0 rfl ?_
      obtain ⟨hk9, hl10⟩ : AR T xm_ 1 192 192 := ar_of (wf_75 hw0 h_a) hxm_
      have hk9i : IA T xm_ := by unfold IA; omega
      refine tn_getR (ci := 8) (i := 3) (n := 75) (x := xm_) dX8_renumber_19 rfl lay_8 (by decide) fl8_18 h_a rfl rfl (rc_F hF (Or.inl (by decide)) (by decide) (hxm_)) ?_
      refine tn_aload_n dX8_renumber_22 rfl 1 rfl ?_
      refine tn_getR (ci := 1) (i := 10) (n := 15) (x := xh) dX8_renumber_23 rfl lay_1 (by decide) fl8_175 h_rx1 rfl rfl (rc_F hF (Or.inl (by decide)) (by decide) (hxh)) ?_
      refine tn_iload_n dX8_renumber_26 rfl 2 rfl ?_
      refine tn_callSN (M := m_X8_renumber) (pc := 27) (ix := 74) (M' := m_X11_at) (As := [.ref xh, .int (iI i2)]) (rest := [.ref xm_, .int (iI i2), .ref xh]) dX8_renumber_27 ok_X11_at stt_X11_at nl8_74 np_X11_at rfl (Nat.le_of_ble_eq_true rfl) (Nat.le_of_ble_eq_true rfl) rfl (k_X11_at_x (d + 1) (T := T) (σ := σ) (x := xh) (i := i2) (R := σ.2.1 (1000 + xh)) hk5i (by omega) (by omega) hw rfl) (fun r11 T13 σ12 gt14 hp => ?_)
      obtain ⟨v18, rfl, rfl, rfl, f15, f16, f17⟩ := hp
      clear gt14
      clear f16
      have f17u := f17
      unfold ATQ at f17u
      show Tn _ _ 30 T σ [(0, .ref a), (1, .ref rx1), (2, .int (iI i2))] [.int (iI v18), .ref xm_, .int (iI i2), .ref xh] _
      have cv19 : σ.2.1 (1000 + xm_) = Rm := (CHX.r hC (by first | (simp; done) | (simp only [List.mem_cons, List.not_mem_nil, or_false, not_or]; omega))).trans (hRm)
      refine tn_callSN (M := m_X8_renumber) (pc := 30) (ix := 74) (M' := m_X11_at) (As := [.ref xm_, .int (iI v18)]) (rest := [.int (iI i2), .ref xh]) dX8_renumber_30 ok_X11_at stt_X11_at nl8_74 np_X11_at rfl (Nat.le_of_ble_eq_true rfl) (Nat.le_of_ble_eq_true rfl) rfl (k_X11_at_x (d + 1) (T := T) (σ := σ) (x := xm_) (i := v18) (R := Rm) hk9i (by omega) (by omega) hw cv19) (fun r20 T22 σ21 gt23 hp => ?_)
      obtain ⟨v27, rfl, rfl, rfl, f24, f25, f26⟩ := hp
      clear gt23
      clear f25
      have f26u := f26
      unfold ATQ at f26u
      show Tn _ _ 33 T σ [(0, .ref a), (1, .ref rx1), (2, .int (iI i2))] [.int (iI v27), .int (iI i2), .ref xh] _
      refine tn_callSN (M := m_X8_renumber) (pc := 33) (ix := 128) (M' := m_X11_put) (As := [.ref xh, .int (iI i2), .int (iI v27)]) (rest := []) dX8_renumber_33 ok_X11_put stt_X11_put nl8_128 np_X11_put rfl (Nat.le_of_ble_eq_true rfl) (Nat.le_of_ble_eq_true rfl) rfl (k_X11_put_x (d + 1) (T := T) (σ := σ) (x := xh) (i := i2) (y := v27) hk5i (by omega) (by omega) (by omega) hw (nh_k hk5 (by unfold HT; omega)) (vok_1 (by have q9 := hk5; omega) (by omega))) (fun r28 T30 σ29 gt31 hp => ?_)
      obtain ⟨rfl, rfl, w35, F36, f32, f33⟩ := hp
      clear gt31
      show Tn _ _ 36 T σ29 [(0, .ref a), (1, .ref rx1), (2, .int (iI i2))] [] _
      refine tn_iinc (q0 := 2) (L' := [(2, .int (iI (i2 + 1))), (0, .ref a), (1, .ref rx1)]) dX8_renumber_36 rfl (by decide) rfl ?_
      refine tn_goto (tgt := 2) dX8_renumber_39 (by decide) ?_
      exact tn_sub [1, 2, 0] rfl (ih _ (by omega) (i2 + 1) σ29 w35 ((FrC.rfl.trans (FrC.sub hF (by decide))).trans (FrC.sub F36 (by decide))) (by omega) (hC.trans (CHX.sub f32 (by simp) (by simp) (by simp))) (hH.step ⟨by omega, by omega⟩ f17 (by have z := f26; unfold ATQ at z ⊢; omega) (ptf_row f33 ⟨by omega, by omega⟩)) (by omega) rfl)
set_option maxHeartbeats 1000000 in
set_option maxRecDepth 20000 in
theorem l_X8_renumber_x_121 (d : Nat) {T : CT} {σ0 : MS} {a : Nat} {rx1 : Nat} {c2 : Int} {W1 : Int → It} {x : Nat} {n : Int} {W : Int → It} {Fq : Int} {xh : Nat} {Rh : Int → Int} {xm_ : Nat} {Rm : Int → Int} {post : Option Value → CT → MS → Prop} (h_a : OB T a 8) (h_rx1 : OB T rx1 1) (t_rx1 : (T rx1).1 = 50) (r_c2 : 0 ≤ c2 ∧ c2 ≤ 200) (hw0 : WT T σ0) (hk : 0 ≤ c2 ∧ c2 < n) (hop : ∀ c, (c = 3 ∨ c = 5 ∨ c = 7 ∨ c = 9) → W1 c2 c = 2 → 0 ≤ W1 c2 (c + 1) ∧ W1 c2 (c + 1) < 192) (hx : σ0.2.1 5 rx1 = (x : Int)) (hn : σ0.2.1 6 rx1 = n) (hFq : σ0.2.1 10 rx1 = Fq) (hxh : σ0.2.1 15 rx1 = (xh : Int)) (hxm_ : σ0.2.1 75 a = (xm_ : Int)) (hRm : σ0.2.1 (1000 + xm_) = Rm) (hN : n ≤ 200) (hne : x ≠ xh ∧ x ≠ xm_ ∧ xh ≠ xm_) (hx_170 : ∀ (i4 : Int) (σ : MS) , (WT T σ) → (FrC T [] σ0 σ) → (3 ≤ i4 ∧ i4 ≤ 11) → (CHX [] [x] [] σ0 σ) → (RN3 W1 (cW σ x n) Rm c2 i4) → (3 ≤ i4 ∧ i4 ≤ 11) → (11 ≤ i4) → Tn (d + 3) m_X8_renumber 170 T σ [(0, .ref a), (1, .ref rx1), (2, .int (iI c2)), (4, .int (iI i4))] [] post) : ∀ (nq9 : Nat) (i4 : Int) (σ : MS) , (WT T σ) → (FrC T [] σ0 σ) → (3 ≤ i4 ∧ i4 ≤ 11) → (CHX [] [x] [] σ0 σ) → (RN3 W1 (cW σ x n) Rm c2 i4) → (3 ≤ i4 ∧ i4 ≤ 11) → (2147483700 - i4).toNat = nq9 → Tn (d + 3) m_X8_renumber 121 T σ [(0, .ref a), (1, .ref rx1), (2, .int (iI c2)), (4, .int (iI i4))] [] post := by
  intro nq9
  induction nq9 using Nat.strongRecOn with
  | _ nq9 ih =>
    intro i4 σ hw hF r_i4 hC hI h4 hm
    have hIn := hI.num
    refine tn_iload dX8_renumber_121 3 rfl ?_
    refine tn_bipush dX8_renumber_123 (by decide) ?_
    refine tn_icmp_ge (tgt := 170) dX8_renumber_125 (by decide) ⟨by omega, by omega⟩ ⟨by decide, by decide⟩ (fun h1 => ?_) (fun h1 => ?_)
    · exact tn_sub [0, 1, 2, 3] rfl (hx_170 (i4) σ hw (FrC.rfl.trans (FrC.sub hF (by decide))) (by omega) hC hI (by omega) (by omega))
    · refine tn_aload_n dX8_renumber_128 rfl 1 rfl ?_
      refine tn_iload_n dX8_renumber_129 rfl 2 rfl ?_
      refine tn_iload dX8_renumber_130 3 rfl ?_
      obtain ⟨hl5, hk4a, hk4b⟩ := cel_of (wf_5 hw0 h_rx1) hx
      have hk4 : (T x).1 = 1 := hk4a (by omega)
      clear hk4a hk4b
      have hk4i : IA T x := by unfold IA; omega
      refine tn_callV (M := m_X8_renumber) (pc := 132) (ix := 166) (ci := 1) (M' := m_X1_get) (As := [.int (iI c2), .int (iI i4)]) (rest := []) dX8_renumber_132 ok_X1_get im_X1_get se_X1_get ml8_166 np_X1_get rfl rfl h_rx1 rfl (Nat.le_of_ble_eq_true rfl) (Nat.le_of_ble_eq_true rfl) rfl (k_X1_get_x (d + 1) (T := T) (σ := σ) (a := rx1) (k := c2) (c := i4) (x := x) (n := n) (W := cW σ x n) h_rx1 (by omega) (by omega) hw (rc_F hF (Or.inl (by decide)) (by decide) (hx)) (rc_F hF (Or.inl (by decide)) (by decide) (hn)) rfl (by omega) (by omega)) (fun r6 T8 σ7 gt9 hp => ?_)
      obtain ⟨v12, rfl, rfl, rfl, f10, f11⟩ := hp
      clear gt9
      show Tn _ _ 135 T σ [(0, .ref a), (1, .ref rx1), (2, .int (iI c2)), (4, .int (iI i4))] [.int (iI v12)] _
      refine tn_iconst dX8_renumber_135 ?_
      refine tn_icmp_ne (tgt := 164) dX8_renumber_136 (by decide) ⟨by omega, by omega⟩ ⟨by decide, by decide⟩ (fun h13 => ?_) (fun h13 => ?_)
      · refine tn_iinc (q0 := 3) (L' := [(4, .int (iI (i4 + 2))), (0, .ref a), (1, .ref rx1), (2, .int (iI c2))]) dX8_renumber_164 rfl (by decide) rfl ?_
        refine tn_goto (tgt := 121) dX8_renumber_167 (by decide) ?_
        exact tn_sub [1, 2, 3, 0] rfl (ih _ (by omega) (i4 + 2) σ hw (FrC.rfl.trans (FrC.sub hF (by decide))) (by omega) hC (hI.no (by omega) (by omega)) (by omega) rfl)
      · refine tn_aload_n dX8_renumber_139 rfl 1 rfl ?_
        refine tn_iload_n dX8_renumber_140 rfl 2 rfl ?_
        refine tn_iload dX8_renumber_141 3 rfl ?_
        refine tn_iconst dX8_renumber_143 ?_
        refine tn_iadd dX8_renumber_144 ?_
        refine tn_aload_n dX8_renumber_145 rfl 0 rfl ?_
        obtain ⟨hk16, hl17⟩ : AR T xm_ 1 192 192 := ar_of (wf_75 hw0 h_a) hxm_
        have hk16i : IA T xm_ := by unfold IA; omega
        refine tn_getR (ci := 8) (i := 3) (n := 75) (x := xm_) dX8_renumber_146 rfl lay_8 (by decide) fl8_18 h_a rfl rfl (rc_F hF (Or.inl (by decide)) (by decide) (hxm_)) ?_
        refine tn_aload_n dX8_renumber_149 rfl 1 rfl ?_
        refine tn_iload_n dX8_renumber_150 rfl 2 rfl ?_
        refine tn_iload dX8_renumber_151 3 rfl ?_
        refine tn_iconst dX8_renumber_153 ?_
        refine tn_iadd dX8_renumber_154 ?_
        refine tn_callV (M := m_X8_renumber) (pc := 155) (ix := 166) (ci := 1) (M' := m_X1_get) (As := [.int (iI c2), .int (iI (i4 + 1))]) (rest := [.ref xm_, .int (iI (i4 + 1)), .int (iI c2), .ref rx1]) dX8_renumber_155 ok_X1_get im_X1_get se_X1_get ml8_166 np_X1_get rfl rfl h_rx1 rfl (Nat.le_of_ble_eq_true rfl) (Nat.le_of_ble_eq_true rfl) rfl (k_X1_get_x (d + 1) (T := T) (σ := σ) (a := rx1) (k := c2) (c := i4 + 1) (x := x) (n := n) (W := cW σ x n) h_rx1 (by omega) (by omega) hw (rc_F hF (Or.inl (by decide)) (by decide) (hx)) (rc_F hF (Or.inl (by decide)) (by decide) (hn)) rfl (by omega) (by omega)) (fun r18 T20 σ19 gt21 hp => ?_)
        obtain ⟨v24, rfl, rfl, rfl, f22, f23⟩ := hp
        clear gt21
        show Tn _ _ 158 T σ [(0, .ref a), (1, .ref rx1), (2, .int (iI c2)), (4, .int (iI i4))] [.int (iI v24), .ref xm_, .int (iI (i4 + 1)), .int (iI c2), .ref rx1] _
        have cv25 : σ.2.1 (1000 + xm_) = Rm := (CHX.r hC (by first | (simp; done) | (simp only [List.mem_cons, List.not_mem_nil, or_false, not_or]; omega))).trans (hRm)
        refine tn_callSN (M := m_X8_renumber) (pc := 158) (ix := 74) (M' := m_X11_at) (As := [.ref xm_, .int (iI v24)]) (rest := [.int (iI (i4 + 1)), .int (iI c2), .ref rx1]) dX8_renumber_158 ok_X11_at stt_X11_at nl8_74 np_X11_at rfl (Nat.le_of_ble_eq_true rfl) (Nat.le_of_ble_eq_true rfl) rfl (k_X11_at_x (d + 1) (T := T) (σ := σ) (x := xm_) (i := v24) (R := Rm) hk16i (by omega) (by omega) hw cv25) (fun r26 T28 σ27 gt29 hp => ?_)
        obtain ⟨v33, rfl, rfl, rfl, f30, f31, f32⟩ := hp
        clear gt29
        clear f31
        have f32u := f32
        unfold ATQ at f32u
        show Tn _ _ 161 T σ [(0, .ref a), (1, .ref rx1), (2, .int (iI c2)), (4, .int (iI i4))] [.int (iI v33), .int (iI (i4 + 1)), .int (iI c2), .ref rx1] _
        refine tn_callV (M := m_X8_renumber) (pc := 161) (ix := 178) (ci := 1) (M' := m_X1_set) (As := [.int (iI c2), .int (iI (i4 + 1)), .int (iI v33)]) (rest := []) dX8_renumber_161 ok_X1_set im_X1_set se_X1_set ml8_178 np_X1_set rfl rfl h_rx1 rfl (Nat.le_of_ble_eq_true rfl) (Nat.le_of_ble_eq_true rfl) rfl (k_X1_set_x (d + 1) (T := T) (σ := σ) (a := rx1) (k := c2) (c := i4 + 1) (y := v33) (x := x) (n := n) (W := cW σ x n) h_rx1 (by omega) (by omega) (by omega) hw (rc_F hF (Or.inl (by decide)) (by decide) (hx)) (rc_F hF (Or.inl (by decide)) (by decide) (hn)) rfl (by omega) (by omega) (by omega) (by omega)) (fun r34 T36 σ35 gt37 hp => ?_)
        obtain ⟨rfl, rfl, w41, F42, f38, f39⟩ := hp
        clear gt37
        show Tn _ _ 164 T σ35 [(0, .ref a), (1, .ref rx1), (2, .int (iI c2)), (4, .int (iI i4))] [] _
        refine tn_iinc (q0 := 3) (L' := [(4, .int (iI (i4 + 2))), (0, .ref a), (1, .ref rx1), (2, .int (iI c2))]) dX8_renumber_164 rfl (by decide) rfl ?_
        refine tn_goto (tgt := 121) dX8_renumber_167 (by decide) ?_
        exact tn_sub [1, 2, 3, 0] rfl (ih _ (by omega) (i4 + 2) σ35 w41 ((FrC.rfl.trans (FrC.sub hF (by decide))).trans (FrC.sub F42 (by decide))) (by omega) (hC.trans (CHX.sub f38 (by simp) (by simp) (by simp))) (hI.yes (by omega) (by omega) (at_nb f32 (by omega) (by omega) (by rw [hI.kc1]; exact hop i4 (by omega) (by rw [← hI.kc]; omega))) f39) (by omega) rfl)
set_option maxHeartbeats 1000000 in
set_option maxRecDepth 20000 in
theorem l_X8_renumber_x_44 (d : Nat) {T : CT} {σ0 : MS} {a : Nat} {rx1 : Nat} {x : Nat} {n : Int} {W : Int → It} {Fq : Int} {xh : Nat} {Rh : Int → Int} {xm_ : Nat} {Rm : Int → Int} {post : Option Value → CT → MS → Prop} (h_a : OB T a 8) (h_rx1 : OB T rx1 1) (t_rx1 : (T rx1).1 = 50) (hw0 : WT T σ0) (hn0 : 0 ≤ n) (hwok : WOK W n) (hx : σ0.2.1 5 rx1 = (x : Int)) (hn : σ0.2.1 6 rx1 = n) (hFq : σ0.2.1 10 rx1 = Fq) (hxh : σ0.2.1 15 rx1 = (xh : Int)) (hxm_ : σ0.2.1 75 a = (xm_ : Int)) (hRm : σ0.2.1 (1000 + xm_) = Rm) (hN : n ≤ 200) (hne : x ≠ xh ∧ x ≠ xm_ ∧ xh ≠ xm_) (hx_176 : ∀ (i2 : Int) (σ : MS) , (WT T σ) → (FrC T [] σ0 σ) → (0 ≤ i2 ∧ i2 ≤ 200) → (CHX [] [x] [] σ0 σ) → (True) → (True) → (RNP W (cW σ x n) Rm n) → Tn (d + 3) m_X8_renumber 176 T σ [(0, .ref a), (1, .ref rx1), (2, .int (iI i2))] [] post) : ∀ (nq9 : Nat) (i2 : Int) (σ : MS) , (WT T σ) → (FrC T [] σ0 σ) → (0 ≤ i2 ∧ i2 ≤ 200) → (CHX [] [x] [] σ0 σ) → (RNP W (cW σ x n) Rm i2) → (i2 ≤ n) → (2147483700 - i2).toNat = nq9 → Tn (d + 3) m_X8_renumber 44 T σ [(0, .ref a), (1, .ref rx1), (2, .int (iI i2))] [] post := by
  intro nq9
  induction nq9 using Nat.strongRecOn with
  | _ nq9 ih =>
    intro i2 σ hw hF r_i2 hC hN_ h2 hm
    refine tn_iload_n dX8_renumber_44 rfl 2 rfl ?_
    refine tn_aload_n dX8_renumber_45 rfl 1 rfl ?_
    refine tn_getI (ci := 1) (i := 1) (n := 6) (t := σ0.2.1 6 rx1) dX8_renumber_46 rfl lay_1 (by decide) fl8_70 h_rx1 rfl rfl (rc_F hF (Or.inl (by decide)) (by decide) (rfl)) ?_
    have g1 : ((0 : Int) ≤ σ0.2.1 6 rx1 ∧ σ0.2.1 6 rx1 ≤ 5000) ∧ ((T rx1).1 = 50 → σ0.2.1 6 rx1 ≤ 200) := wf_6 hw0 h_rx1
    have g1x := g1.2
    replace g1 := g1.1
    have g1x := g1x t_rx1
    refine tn_icmp_ge (tgt := 176) dX8_renumber_49 (by decide) ⟨by omega, by omega⟩ ⟨by omega, by omega⟩ (fun h2 => ?_) (fun h2 => ?_)
    · exact tn_sub [0, 1, 2] rfl (hx_176 (i2) σ hw (FrC.rfl.trans (FrC.sub hF (by decide))) (by omega) hC True.intro True.intro (hN_.to (by omega)))
    · refine tn_aload_n dX8_renumber_52 rfl 1 rfl ?_
      refine tn_iload_n dX8_renumber_53 rfl 2 rfl ?_
      obtain ⟨hl6, hk5a, hk5b⟩ := cel_of (wf_5 hw0 h_rx1) hx
      have hk5 : (T x).1 = 1 := hk5a (by omega)
      clear hk5a hk5b
      have hk5i : IA T x := by unfold IA; omega
      refine tn_callV (M := m_X8_renumber) (pc := 54) (ix := 120) (ci := 1) (M' := m_X1_writtenBy) (As := [.int (iI i2)]) (rest := []) dX8_renumber_54 ok_X1_writtenBy im_X1_writtenBy se_X1_writtenBy ml8_120 np_X1_writtenBy rfl rfl h_rx1 rfl (Nat.le_of_ble_eq_true rfl) (Nat.le_of_ble_eq_true rfl) rfl (k_X1_writtenBy_x (d) (T := T) (σ := σ) (a := rx1) (k := i2) (x := x) (n := n) (W := cW σ x n) h_rx1 (by omega) hw (rc_F hF (Or.inl (by decide)) (by decide) (hx)) (rc_F hF (Or.inl (by decide)) (by decide) (hn)) rfl (by omega)) (fun r7 T9 σ8 gt10 hp => ?_)
      obtain ⟨v13, rfl, rfl, rfl, f11, f12⟩ := hp
      clear gt10
      show Tn _ _ 57 T σ [(0, .ref a), (1, .ref rx1), (2, .int (iI i2))] [.int (iI v13)] _
      refine tn_istore_n (L' := [(3, .int (iI v13)), (0, .ref a), (1, .ref rx1), (2, .int (iI i2))]) dX8_renumber_57 rfl (by decide) rfl ?_
      refine tn_iload_n dX8_renumber_58 rfl 0 rfl ?_
      refine tn_iconst dX8_renumber_59 ?_
      refine tn_icmp_eq (tgt := 77) dX8_renumber_60 (by decide) ⟨by omega, by omega⟩ ⟨by decide, by decide⟩ (fun h14 => ?_) (fun h14 => ?_)
      · refine tn_aload_n dX8_renumber_77 rfl 2 rfl ?_
        refine tn_iload_n dX8_renumber_78 rfl 3 rfl ?_
        refine tn_iconst dX8_renumber_79 ?_
        refine tn_callV (M := m_X8_renumber) (pc := 80) (ix := 166) (ci := 1) (M' := m_X1_get) (As := [.int (iI i2), .int (iI 0)]) (rest := []) dX8_renumber_80 ok_X1_get im_X1_get se_X1_get ml8_166 np_X1_get rfl rfl h_rx1 rfl (Nat.le_of_ble_eq_true rfl) (Nat.le_of_ble_eq_true rfl) rfl (k_X1_get_x (d + 1) (T := T) (σ := σ) (a := rx1) (k := i2) (c := 0) (x := x) (n := n) (W := cW σ x n) h_rx1 (by omega) (by decide) hw (rc_F hF (Or.inl (by decide)) (by decide) (hx)) (rc_F hF (Or.inl (by decide)) (by decide) (hn)) rfl (by omega) (by omega)) (fun r15 T17 σ16 gt18 hp => ?_)
        obtain ⟨v21, rfl, rfl, rfl, f19, f20⟩ := hp
        clear gt18
        show Tn _ _ 83 T σ [(3, .int (iI v13)), (0, .ref a), (1, .ref rx1), (2, .int (iI i2))] [.int (iI v21)] _
        refine tn_bipush dX8_renumber_83 (by decide) ?_
        refine tn_icmp_ne (tgt := 118) dX8_renumber_85 (by decide) ⟨by omega, by omega⟩ ⟨by decide, by decide⟩ (fun h22 => ?_) (fun h22 => ?_)
        · have hio : iOK (cW σ x n i2) := by rw [hN_.at (Int.le_refl i2)]; exact hwok i2 (by omega) (by omega)
          have hio0 := hio.1
          have hv1 : cW σ x n = uZ (cW σ x n) i2 (rn2 Rm (rn1 Rm (cW σ x n i2))) := rn_wC (by have z := f12; unfold WBQ at z; have z2 := hio.2.1; omega) (by omega)
          refine tn_iconst dX8_renumber_118 ?_
          refine tn_istore (L' := [(4, .int (iI 3)), (3, .int (iI v13)), (0, .ref a), (1, .ref rx1), (2, .int (iI i2))]) dX8_renumber_119 (by decide) rfl ?_
          have cv23 : σ.2.1 (1000 + xm_) = Rm := (CHX.r hC (by first | (simp; done) | (simp only [List.mem_cons, List.not_mem_nil, or_false, not_or]; omega))).trans (hRm)
          refine tn_sub [2, 3, 4, 0] rfl (l_X8_renumber_x_121 (d) (T := T) (σ0 := σ) (a := a) (rx1 := rx1) (c2 := i2) (x := x) (n := n) (W := W) (Fq := Fq) (xh := xh) (Rh := Rh) (xm_ := xm_) (Rm := (Rm)) (W1 := (cW σ x n)) h_a h_rx1 t_rx1 (by omega) hw (by omega) (fun c hc q => rn_op hio hv1 hc q) (rc_F hF (Or.inl (by decide)) (by decide) (hx)) (rc_F hF (Or.inl (by decide)) (by decide) (hn)) (rc_F hF (Or.inl (by decide)) (by decide) (hFq)) (rc_F hF (Or.inl (by decide)) (by decide) (hxh)) (rc_F hF (Or.inl (by decide)) (by decide) (hxm_)) cv23 hN hne (fun i424 σ25 w28 F29 r30 f31 f32 f33 f34 => ?_) _ (3) σ hw FrC.rfl (by omega) CHX.rfl RN3.nil (by omega) rfl)
          show Tn _ _ 170 T σ25 [(0, .ref a), (1, .ref rx1), (2, .int (iI i2)), (4, .int (iI i424))] [] _
          refine tn_iinc (q0 := 2) (L' := [(2, .int (iI (i2 + 1))), (0, .ref a), (1, .ref rx1), (4, .int (iI i424))]) dX8_renumber_170 rfl (by decide) rfl ?_
          refine tn_goto (tgt := 44) dX8_renumber_173 (by decide) ?_
          exact tn_sub [1, 2, 0] rfl (ih _ (by omega) (i2 + 1) σ25 w28 ((FrC.rfl.trans (FrC.sub hF (by decide))).trans (FrC.sub F29 (by decide))) (by omega) (hC.trans (CHX.sub f31 (by simp) (by simp) (by simp))) (hN_.step (by omega) hv1 f32 (by omega)) (by omega) rfl)
        · refine tn_aload_n dX8_renumber_88 rfl 2 rfl ?_
          refine tn_iload_n dX8_renumber_89 rfl 3 rfl ?_
          refine tn_bipush dX8_renumber_90 (by decide) ?_
          refine tn_callV (M := m_X8_renumber) (pc := 92) (ix := 166) (ci := 1) (M' := m_X1_get) (As := [.int (iI i2), .int (iI 11)]) (rest := []) dX8_renumber_92 ok_X1_get im_X1_get se_X1_get ml8_166 np_X1_get rfl rfl h_rx1 rfl (Nat.le_of_ble_eq_true rfl) (Nat.le_of_ble_eq_true rfl) rfl (k_X1_get_x (d + 1) (T := T) (σ := σ) (a := rx1) (k := i2) (c := 11) (x := x) (n := n) (W := cW σ x n) h_rx1 (by omega) (by decide) hw (rc_F hF (Or.inl (by decide)) (by decide) (hx)) (rc_F hF (Or.inl (by decide)) (by decide) (hn)) rfl (by omega) (by omega)) (fun r35 T37 σ36 gt38 hp => ?_)
          obtain ⟨v41, rfl, rfl, rfl, f39, f40⟩ := hp
          clear gt38
          show Tn _ _ 95 T σ [(3, .int (iI v13)), (0, .ref a), (1, .ref rx1), (2, .int (iI i2))] [.int (iI v41)] _
          refine tn_iconst dX8_renumber_95 ?_
          refine tn_icmp_ne (tgt := 118) dX8_renumber_96 (by decide) ⟨by omega, by omega⟩ ⟨by decide, by decide⟩ (fun h42 => ?_) (fun h42 => ?_)
          · have hio : iOK (cW σ x n i2) := by rw [hN_.at (Int.le_refl i2)]; exact hwok i2 (by omega) (by omega)
            have hio0 := hio.1
            have hv1 : cW σ x n = uZ (cW σ x n) i2 (rn2 Rm (rn1 Rm (cW σ x n i2))) := rn_wC (by have z := f12; unfold WBQ at z; have z2 := hio.2.1; omega) (by omega)
            refine tn_iconst dX8_renumber_118 ?_
            refine tn_istore (L' := [(4, .int (iI 3)), (3, .int (iI v13)), (0, .ref a), (1, .ref rx1), (2, .int (iI i2))]) dX8_renumber_119 (by decide) rfl ?_
            have cv43 : σ.2.1 (1000 + xm_) = Rm := (CHX.r hC (by first | (simp; done) | (simp only [List.mem_cons, List.not_mem_nil, or_false, not_or]; omega))).trans (hRm)
            refine tn_sub [2, 3, 4, 0] rfl (l_X8_renumber_x_121 (d) (T := T) (σ0 := σ) (a := a) (rx1 := rx1) (c2 := i2) (x := x) (n := n) (W := W) (Fq := Fq) (xh := xh) (Rh := Rh) (xm_ := xm_) (Rm := (Rm)) (W1 := (cW σ x n)) h_a h_rx1 t_rx1 (by omega) hw (by omega) (fun c hc q => rn_op hio hv1 hc q) (rc_F hF (Or.inl (by decide)) (by decide) (hx)) (rc_F hF (Or.inl (by decide)) (by decide) (hn)) (rc_F hF (Or.inl (by decide)) (by decide) (hFq)) (rc_F hF (Or.inl (by decide)) (by decide) (hxh)) (rc_F hF (Or.inl (by decide)) (by decide) (hxm_)) cv43 hN hne (fun i444 σ45 w48 F49 r50 f51 f52 f53 f54 => ?_) _ (3) σ hw FrC.rfl (by omega) CHX.rfl RN3.nil (by omega) rfl)
            show Tn _ _ 170 T σ45 [(0, .ref a), (1, .ref rx1), (2, .int (iI i2)), (4, .int (iI i444))] [] _
            refine tn_iinc (q0 := 2) (L' := [(2, .int (iI (i2 + 1))), (0, .ref a), (1, .ref rx1), (4, .int (iI i444))]) dX8_renumber_170 rfl (by decide) rfl ?_
            refine tn_goto (tgt := 44) dX8_renumber_173 (by decide) ?_
            exact tn_sub [1, 2, 0] rfl (ih _ (by omega) (i2 + 1) σ45 w48 ((FrC.rfl.trans (FrC.sub hF (by decide))).trans (FrC.sub F49 (by decide))) (by omega) (hC.trans (CHX.sub f51 (by simp) (by simp) (by simp))) (hN_.step (by omega) hv1 f52 (by omega)) (by omega) rfl)
          · refine tn_aload_n dX8_renumber_99 rfl 2 rfl ?_
            refine tn_iload_n dX8_renumber_100 rfl 3 rfl ?_
            refine tn_iconst dX8_renumber_101 ?_
            refine tn_aload_n dX8_renumber_102 rfl 1 rfl ?_
            obtain ⟨hk57, hl58⟩ : AR T xm_ 1 192 192 := ar_of (wf_75 hw0 h_a) hxm_
            have hk57i : IA T xm_ := by unfold IA; omega
            refine tn_getR (ci := 8) (i := 3) (n := 75) (x := xm_) dX8_renumber_103 rfl lay_8 (by decide) fl8_18 h_a rfl rfl (rc_F hF (Or.inl (by decide)) (by decide) (hxm_)) ?_
            refine tn_aload_n dX8_renumber_106 rfl 2 rfl ?_
            refine tn_iload_n dX8_renumber_107 rfl 3 rfl ?_
            refine tn_iconst dX8_renumber_108 ?_
            refine tn_callV (M := m_X8_renumber) (pc := 109) (ix := 166) (ci := 1) (M' := m_X1_get) (As := [.int (iI i2), .int (iI 4)]) (rest := [.ref xm_, .int (iI 4), .int (iI i2), .ref rx1]) dX8_renumber_109 ok_X1_get im_X1_get se_X1_get ml8_166 np_X1_get rfl rfl h_rx1 rfl (Nat.le_of_ble_eq_true rfl) (Nat.le_of_ble_eq_true rfl) rfl (k_X1_get_x (d + 1) (T := T) (σ := σ) (a := rx1) (k := i2) (c := 4) (x := x) (n := n) (W := cW σ x n) h_rx1 (by omega) (by decide) hw (rc_F hF (Or.inl (by decide)) (by decide) (hx)) (rc_F hF (Or.inl (by decide)) (by decide) (hn)) rfl (by omega) (by omega)) (fun r59 T61 σ60 gt62 hp => ?_)
            obtain ⟨v65, rfl, rfl, rfl, f63, f64⟩ := hp
            clear gt62
            show Tn _ _ 112 T σ [(3, .int (iI v13)), (0, .ref a), (1, .ref rx1), (2, .int (iI i2))] [.int (iI v65), .ref xm_, .int (iI 4), .int (iI i2), .ref rx1] _
            have cv66 : σ.2.1 (1000 + xm_) = Rm := (CHX.r hC (by first | (simp; done) | (simp only [List.mem_cons, List.not_mem_nil, or_false, not_or]; omega))).trans (hRm)
            refine tn_callSN (M := m_X8_renumber) (pc := 112) (ix := 74) (M' := m_X11_at) (As := [.ref xm_, .int (iI v65)]) (rest := [.int (iI 4), .int (iI i2), .ref rx1]) dX8_renumber_112 ok_X11_at stt_X11_at nl8_74 np_X11_at rfl (Nat.le_of_ble_eq_true rfl) (Nat.le_of_ble_eq_true rfl) rfl (k_X11_at_x (d + 1) (T := T) (σ := σ) (x := xm_) (i := v65) (R := Rm) hk57i (by omega) (by omega) hw cv66) (fun r67 T69 σ68 gt70 hp => ?_)
            obtain ⟨v74, rfl, rfl, rfl, f71, f72, f73⟩ := hp
            clear gt70
            clear f72
            have f73u := f73
            unfold ATQ at f73u
            show Tn _ _ 115 T σ [(3, .int (iI v13)), (0, .ref a), (1, .ref rx1), (2, .int (iI i2))] [.int (iI v74), .int (iI 4), .int (iI i2), .ref rx1] _
            refine tn_callV (M := m_X8_renumber) (pc := 115) (ix := 178) (ci := 1) (M' := m_X1_set) (As := [.int (iI i2), .int (iI 4), .int (iI v74)]) (rest := []) dX8_renumber_115 ok_X1_set im_X1_set se_X1_set ml8_178 np_X1_set rfl rfl h_rx1 rfl (Nat.le_of_ble_eq_true rfl) (Nat.le_of_ble_eq_true rfl) rfl (k_X1_set_x (d + 1) (T := T) (σ := σ) (a := rx1) (k := i2) (c := 4) (y := v74) (x := x) (n := n) (W := cW σ x n) h_rx1 (by omega) (by decide) (by omega) hw (rc_F hF (Or.inl (by decide)) (by decide) (hx)) (rc_F hF (Or.inl (by decide)) (by decide) (hn)) rfl (by omega) (by omega) (by omega) (by omega)) (fun r75 T77 σ76 gt78 hp => ?_)
            obtain ⟨rfl, rfl, w82, F83, f79, f80⟩ := hp
            clear gt78
            show Tn _ _ 118 T σ76 [(3, .int (iI v13)), (0, .ref a), (1, .ref rx1), (2, .int (iI i2))] [] _
            have hio : iOK (cW σ x n i2) := by rw [hN_.at (Int.le_refl i2)]; exact hwok i2 (by omega) (by omega)
            have hio0 := hio.1
            have hv1 : cW σ76 x n = uZ (cW σ x n) i2 (rn2 Rm (rn1 Rm (cW σ x n i2))) := rn_wB f80 (by omega) (at_nb f73 (by omega) (by omega) ((hio.2.2.2.2 (by omega) (Or.inr (by omega))).2.2.2 (by omega)))
            refine tn_iconst dX8_renumber_118 ?_
            refine tn_istore (L' := [(4, .int (iI 3)), (3, .int (iI v13)), (0, .ref a), (1, .ref rx1), (2, .int (iI i2))]) dX8_renumber_119 (by decide) rfl ?_
            have cv84 : σ76.2.1 (1000 + xm_) = Rm := (CHX.r f79 (by first | (simp; done) | (simp only [List.mem_cons, List.not_mem_nil, or_false, not_or]; omega))).trans (cv66)
            refine tn_sub [2, 3, 4, 0] rfl (l_X8_renumber_x_121 (d) (T := T) (σ0 := σ76) (a := a) (rx1 := rx1) (c2 := i2) (x := x) (n := n) (W := W) (Fq := Fq) (xh := xh) (Rh := Rh) (xm_ := xm_) (Rm := (Rm)) (W1 := (cW σ76 x n)) h_a h_rx1 t_rx1 (by omega) w82 (by omega) (fun c hc q => rn_op hio hv1 hc q) (rc_F F83 (Or.inl (by decide)) (by decide) (rc_F hF (Or.inl (by decide)) (by decide) (hx))) (rc_F F83 (Or.inl (by decide)) (by decide) (rc_F hF (Or.inl (by decide)) (by decide) (hn))) (rc_F F83 (Or.inl (by decide)) (by decide) (rc_F hF (Or.inl (by decide)) (by decide) (hFq))) (rc_F F83 (Or.inl (by decide)) (by decide) (rc_F hF (Or.inl (by decide)) (by decide) (hxh))) (rc_F F83 (Or.inl (by decide)) (by decide) (rc_F hF (Or.inl (by decide)) (by decide) (hxm_))) cv84 hN hne (fun i485 σ86 w89 F90 r91 f92 f93 f94 f95 => ?_) _ (3) σ76 w82 FrC.rfl (by omega) CHX.rfl RN3.nil (by omega) rfl)
            show Tn _ _ 170 T σ86 [(0, .ref a), (1, .ref rx1), (2, .int (iI i2)), (4, .int (iI i485))] [] _
            refine tn_iinc (q0 := 2) (L' := [(2, .int (iI (i2 + 1))), (0, .ref a), (1, .ref rx1), (4, .int (iI i485))]) dX8_renumber_170 rfl (by decide) rfl ?_
            refine tn_goto (tgt := 44) dX8_renumber_173 (by decide) ?_
            exact tn_sub [1, 2, 0] rfl (ih _ (by omega) (i2 + 1) σ86 w89 (((FrC.rfl.trans (FrC.sub hF (by decide))).trans (FrC.sub F83 (by decide))).trans (FrC.sub F90 (by decide))) (by omega) ((hC.trans (CHX.sub f79 (by simp) (by simp) (by simp))).trans (CHX.sub f92 (by simp) (by simp) (by simp))) (hN_.step (by omega) hv1 f93 (by omega)) (by omega) rfl)
      · refine tn_aload_n dX8_renumber_63 rfl 2 rfl ?_
        refine tn_iload_n dX8_renumber_64 rfl 3 rfl ?_
        refine tn_iconst dX8_renumber_65 ?_
        refine tn_aload_n dX8_renumber_66 rfl 1 rfl ?_
        obtain ⟨hk98, hl99⟩ : AR T xm_ 1 192 192 := ar_of (wf_75 hw0 h_a) hxm_
        have hk98i : IA T xm_ := by unfold IA; omega
        refine tn_getR (ci := 8) (i := 3) (n := 75) (x := xm_) dX8_renumber_67 rfl lay_8 (by decide) fl8_18 h_a rfl rfl (rc_F hF (Or.inl (by decide)) (by decide) (hxm_)) ?_
        refine tn_iload_n dX8_renumber_70 rfl 0 rfl ?_
        have cv100 : σ.2.1 (1000 + xm_) = Rm := (CHX.r hC (by first | (simp; done) | (simp only [List.mem_cons, List.not_mem_nil, or_false, not_or]; omega))).trans (hRm)
        refine tn_callSN (M := m_X8_renumber) (pc := 71) (ix := 74) (M' := m_X11_at) (As := [.ref xm_, .int (iI v13)]) (rest := [.int (iI 1), .int (iI i2), .ref rx1]) dX8_renumber_71 ok_X11_at stt_X11_at nl8_74 np_X11_at rfl (Nat.le_of_ble_eq_true rfl) (Nat.le_of_ble_eq_true rfl) rfl (k_X11_at_x (d + 1) (T := T) (σ := σ) (x := xm_) (i := v13) (R := Rm) hk98i (by omega) (by omega) hw cv100) (fun r101 T103 σ102 gt104 hp => ?_)
        obtain ⟨v108, rfl, rfl, rfl, f105, f106, f107⟩ := hp
        clear gt104
        clear f106
        have f107u := f107
        unfold ATQ at f107u
        show Tn _ _ 74 T σ [(3, .int (iI v13)), (0, .ref a), (1, .ref rx1), (2, .int (iI i2))] [.int (iI v108), .int (iI 1), .int (iI i2), .ref rx1] _
        refine tn_callV (M := m_X8_renumber) (pc := 74) (ix := 178) (ci := 1) (M' := m_X1_set) (As := [.int (iI i2), .int (iI 1), .int (iI v108)]) (rest := []) dX8_renumber_74 ok_X1_set im_X1_set se_X1_set ml8_178 np_X1_set rfl rfl h_rx1 rfl (Nat.le_of_ble_eq_true rfl) (Nat.le_of_ble_eq_true rfl) rfl (k_X1_set_x (d + 1) (T := T) (σ := σ) (a := rx1) (k := i2) (c := 1) (y := v108) (x := x) (n := n) (W := cW σ x n) h_rx1 (by omega) (by decide) (by omega) hw (rc_F hF (Or.inl (by decide)) (by decide) (hx)) (rc_F hF (Or.inl (by decide)) (by decide) (hn)) rfl (by omega) (by omega) (by omega) (by omega)) (fun r109 T111 σ110 gt112 hp => ?_)
        obtain ⟨rfl, rfl, w116, F117, f113, f114⟩ := hp
        clear gt112
        show Tn _ _ 77 T σ110 [(3, .int (iI v13)), (0, .ref a), (1, .ref rx1), (2, .int (iI i2))] [] _
        refine tn_aload_n dX8_renumber_77 rfl 2 rfl ?_
        refine tn_iload_n dX8_renumber_78 rfl 3 rfl ?_
        refine tn_iconst dX8_renumber_79 ?_
        refine tn_callV (M := m_X8_renumber) (pc := 80) (ix := 166) (ci := 1) (M' := m_X1_get) (As := [.int (iI i2), .int (iI 0)]) (rest := []) dX8_renumber_80 ok_X1_get im_X1_get se_X1_get ml8_166 np_X1_get rfl rfl h_rx1 rfl (Nat.le_of_ble_eq_true rfl) (Nat.le_of_ble_eq_true rfl) rfl (k_X1_get_x (d + 1) (T := T) (σ := σ110) (a := rx1) (k := i2) (c := 0) (x := x) (n := n) (W := cW σ110 x n) h_rx1 (by omega) (by decide) w116 (rc_F F117 (Or.inl (by decide)) (by decide) (rc_F hF (Or.inl (by decide)) (by decide) (hx))) (rc_F F117 (Or.inl (by decide)) (by decide) (rc_F hF (Or.inl (by decide)) (by decide) (hn))) rfl (by omega) (by omega)) (fun r118 T120 σ119 gt121 hp => ?_)
        obtain ⟨v124, rfl, rfl, rfl, f122, f123⟩ := hp
        clear gt121
        show Tn _ _ 83 T σ110 [(3, .int (iI v13)), (0, .ref a), (1, .ref rx1), (2, .int (iI i2))] [.int (iI v124)] _
        refine tn_bipush dX8_renumber_83 (by decide) ?_
        refine tn_icmp_ne (tgt := 118) dX8_renumber_85 (by decide) ⟨by omega, by omega⟩ ⟨by decide, by decide⟩ (fun h125 => ?_) (fun h125 => ?_)
        · have hio : iOK (cW σ x n i2) := by rw [hN_.at (Int.le_refl i2)]; exact hwok i2 (by omega) (by omega)
          have hio0 := hio.1
          have hv1 : cW σ110 x n = uZ (cW σ x n) i2 (rn2 Rm (rn1 Rm (cW σ x n i2))) := rn_wA f114 (by have z := f12; unfold WBQ at z; have z2 := hio.2.1; omega) (at_nb f107 (by omega) (by have z3 := f12; unfold WBQ at z3; omega) (hio.2.1 (by have z := f12; unfold WBQ at z; have z2 := hio.2.1; omega)))
          refine tn_iconst dX8_renumber_118 ?_
          refine tn_istore (L' := [(4, .int (iI 3)), (3, .int (iI v13)), (0, .ref a), (1, .ref rx1), (2, .int (iI i2))]) dX8_renumber_119 (by decide) rfl ?_
          have cv126 : σ110.2.1 (1000 + xm_) = Rm := (CHX.r f113 (by first | (simp; done) | (simp only [List.mem_cons, List.not_mem_nil, or_false, not_or]; omega))).trans (cv100)
          refine tn_sub [2, 3, 4, 0] rfl (l_X8_renumber_x_121 (d) (T := T) (σ0 := σ110) (a := a) (rx1 := rx1) (c2 := i2) (x := x) (n := n) (W := W) (Fq := Fq) (xh := xh) (Rh := Rh) (xm_ := xm_) (Rm := (Rm)) (W1 := (cW σ110 x n)) h_a h_rx1 t_rx1 (by omega) w116 (by omega) (fun c hc q => rn_op hio hv1 hc q) (rc_F F117 (Or.inl (by decide)) (by decide) (rc_F hF (Or.inl (by decide)) (by decide) (hx))) (rc_F F117 (Or.inl (by decide)) (by decide) (rc_F hF (Or.inl (by decide)) (by decide) (hn))) (rc_F F117 (Or.inl (by decide)) (by decide) (rc_F hF (Or.inl (by decide)) (by decide) (hFq))) (rc_F F117 (Or.inl (by decide)) (by decide) (rc_F hF (Or.inl (by decide)) (by decide) (hxh))) (rc_F F117 (Or.inl (by decide)) (by decide) (rc_F hF (Or.inl (by decide)) (by decide) (hxm_))) cv126 hN hne (fun i4127 σ128 w131 F132 r133 f134 f135 f136 f137 => ?_) _ (3) σ110 w116 FrC.rfl (by omega) CHX.rfl RN3.nil (by omega) rfl)
          show Tn _ _ 170 T σ128 [(0, .ref a), (1, .ref rx1), (2, .int (iI i2)), (4, .int (iI i4127))] [] _
          refine tn_iinc (q0 := 2) (L' := [(2, .int (iI (i2 + 1))), (0, .ref a), (1, .ref rx1), (4, .int (iI i4127))]) dX8_renumber_170 rfl (by decide) rfl ?_
          refine tn_goto (tgt := 44) dX8_renumber_173 (by decide) ?_
          exact tn_sub [1, 2, 0] rfl (ih _ (by omega) (i2 + 1) σ128 w131 (((FrC.rfl.trans (FrC.sub hF (by decide))).trans (FrC.sub F117 (by decide))).trans (FrC.sub F132 (by decide))) (by omega) ((hC.trans (CHX.sub f113 (by simp) (by simp) (by simp))).trans (CHX.sub f134 (by simp) (by simp) (by simp))) (hN_.step (by omega) hv1 f135 (by omega)) (by omega) rfl)
        · refine tn_aload_n dX8_renumber_88 rfl 2 rfl ?_
          refine tn_iload_n dX8_renumber_89 rfl 3 rfl ?_
          refine tn_bipush dX8_renumber_90 (by decide) ?_
          refine tn_callV (M := m_X8_renumber) (pc := 92) (ix := 166) (ci := 1) (M' := m_X1_get) (As := [.int (iI i2), .int (iI 11)]) (rest := []) dX8_renumber_92 ok_X1_get im_X1_get se_X1_get ml8_166 np_X1_get rfl rfl h_rx1 rfl (Nat.le_of_ble_eq_true rfl) (Nat.le_of_ble_eq_true rfl) rfl (k_X1_get_x (d + 1) (T := T) (σ := σ110) (a := rx1) (k := i2) (c := 11) (x := x) (n := n) (W := cW σ110 x n) h_rx1 (by omega) (by decide) w116 (rc_F F117 (Or.inl (by decide)) (by decide) (rc_F hF (Or.inl (by decide)) (by decide) (hx))) (rc_F F117 (Or.inl (by decide)) (by decide) (rc_F hF (Or.inl (by decide)) (by decide) (hn))) rfl (by omega) (by omega)) (fun r138 T140 σ139 gt141 hp => ?_)
          obtain ⟨v144, rfl, rfl, rfl, f142, f143⟩ := hp
          clear gt141
          show Tn _ _ 95 T σ110 [(3, .int (iI v13)), (0, .ref a), (1, .ref rx1), (2, .int (iI i2))] [.int (iI v144)] _
          refine tn_iconst dX8_renumber_95 ?_
          refine tn_icmp_ne (tgt := 118) dX8_renumber_96 (by decide) ⟨by omega, by omega⟩ ⟨by decide, by decide⟩ (fun h145 => ?_) (fun h145 => ?_)
          · have hio : iOK (cW σ x n i2) := by rw [hN_.at (Int.le_refl i2)]; exact hwok i2 (by omega) (by omega)
            have hio0 := hio.1
            have hv1 : cW σ110 x n = uZ (cW σ x n) i2 (rn2 Rm (rn1 Rm (cW σ x n i2))) := rn_wA f114 (by have z := f12; unfold WBQ at z; have z2 := hio.2.1; omega) (at_nb f107 (by omega) (by have z3 := f12; unfold WBQ at z3; omega) (hio.2.1 (by have z := f12; unfold WBQ at z; have z2 := hio.2.1; omega)))
            refine tn_iconst dX8_renumber_118 ?_
            refine tn_istore (L' := [(4, .int (iI 3)), (3, .int (iI v13)), (0, .ref a), (1, .ref rx1), (2, .int (iI i2))]) dX8_renumber_119 (by decide) rfl ?_
            have cv146 : σ110.2.1 (1000 + xm_) = Rm := (CHX.r f113 (by first | (simp; done) | (simp only [List.mem_cons, List.not_mem_nil, or_false, not_or]; omega))).trans (cv100)
            refine tn_sub [2, 3, 4, 0] rfl (l_X8_renumber_x_121 (d) (T := T) (σ0 := σ110) (a := a) (rx1 := rx1) (c2 := i2) (x := x) (n := n) (W := W) (Fq := Fq) (xh := xh) (Rh := Rh) (xm_ := xm_) (Rm := (Rm)) (W1 := (cW σ110 x n)) h_a h_rx1 t_rx1 (by omega) w116 (by omega) (fun c hc q => rn_op hio hv1 hc q) (rc_F F117 (Or.inl (by decide)) (by decide) (rc_F hF (Or.inl (by decide)) (by decide) (hx))) (rc_F F117 (Or.inl (by decide)) (by decide) (rc_F hF (Or.inl (by decide)) (by decide) (hn))) (rc_F F117 (Or.inl (by decide)) (by decide) (rc_F hF (Or.inl (by decide)) (by decide) (hFq))) (rc_F F117 (Or.inl (by decide)) (by decide) (rc_F hF (Or.inl (by decide)) (by decide) (hxh))) (rc_F F117 (Or.inl (by decide)) (by decide) (rc_F hF (Or.inl (by decide)) (by decide) (hxm_))) cv146 hN hne (fun i4147 σ148 w151 F152 r153 f154 f155 f156 f157 => ?_) _ (3) σ110 w116 FrC.rfl (by omega) CHX.rfl RN3.nil (by omega) rfl)
            show Tn _ _ 170 T σ148 [(0, .ref a), (1, .ref rx1), (2, .int (iI i2)), (4, .int (iI i4147))] [] _
            refine tn_iinc (q0 := 2) (L' := [(2, .int (iI (i2 + 1))), (0, .ref a), (1, .ref rx1), (4, .int (iI i4147))]) dX8_renumber_170 rfl (by decide) rfl ?_
            refine tn_goto (tgt := 44) dX8_renumber_173 (by decide) ?_
            exact tn_sub [1, 2, 0] rfl (ih _ (by omega) (i2 + 1) σ148 w151 (((FrC.rfl.trans (FrC.sub hF (by decide))).trans (FrC.sub F117 (by decide))).trans (FrC.sub F152 (by decide))) (by omega) ((hC.trans (CHX.sub f113 (by simp) (by simp) (by simp))).trans (CHX.sub f154 (by simp) (by simp) (by simp))) (hN_.step (by omega) hv1 f155 (by omega)) (by omega) rfl)
          · refine tn_aload_n dX8_renumber_99 rfl 2 rfl ?_
            refine tn_iload_n dX8_renumber_100 rfl 3 rfl ?_
            refine tn_iconst dX8_renumber_101 ?_
            refine tn_aload_n dX8_renumber_102 rfl 1 rfl ?_
            refine tn_getR (ci := 8) (i := 3) (n := 75) (x := xm_) dX8_renumber_103 rfl lay_8 (by decide) fl8_18 h_a rfl rfl (rc_F F117 (Or.inl (by decide)) (by decide) (rc_F hF (Or.inl (by decide)) (by decide) (hxm_))) ?_
            refine tn_aload_n dX8_renumber_106 rfl 2 rfl ?_
            refine tn_iload_n dX8_renumber_107 rfl 3 rfl ?_
            refine tn_iconst dX8_renumber_108 ?_
            refine tn_callV (M := m_X8_renumber) (pc := 109) (ix := 166) (ci := 1) (M' := m_X1_get) (As := [.int (iI i2), .int (iI 4)]) (rest := [.ref xm_, .int (iI 4), .int (iI i2), .ref rx1]) dX8_renumber_109 ok_X1_get im_X1_get se_X1_get ml8_166 np_X1_get rfl rfl h_rx1 rfl (Nat.le_of_ble_eq_true rfl) (Nat.le_of_ble_eq_true rfl) rfl (k_X1_get_x (d + 1) (T := T) (σ := σ110) (a := rx1) (k := i2) (c := 4) (x := x) (n := n) (W := cW σ110 x n) h_rx1 (by omega) (by decide) w116 (rc_F F117 (Or.inl (by decide)) (by decide) (rc_F hF (Or.inl (by decide)) (by decide) (hx))) (rc_F F117 (Or.inl (by decide)) (by decide) (rc_F hF (Or.inl (by decide)) (by decide) (hn))) rfl (by omega) (by omega)) (fun r158 T160 σ159 gt161 hp => ?_)
            obtain ⟨v164, rfl, rfl, rfl, f162, f163⟩ := hp
            clear gt161
            show Tn _ _ 112 T σ110 [(3, .int (iI v13)), (0, .ref a), (1, .ref rx1), (2, .int (iI i2))] [.int (iI v164), .ref xm_, .int (iI 4), .int (iI i2), .ref rx1] _
            have cv165 : σ110.2.1 (1000 + xm_) = Rm := (CHX.r f113 (by first | (simp; done) | (simp only [List.mem_cons, List.not_mem_nil, or_false, not_or]; omega))).trans (cv100)
            refine tn_callSN (M := m_X8_renumber) (pc := 112) (ix := 74) (M' := m_X11_at) (As := [.ref xm_, .int (iI v164)]) (rest := [.int (iI 4), .int (iI i2), .ref rx1]) dX8_renumber_112 ok_X11_at stt_X11_at nl8_74 np_X11_at rfl (Nat.le_of_ble_eq_true rfl) (Nat.le_of_ble_eq_true rfl) rfl (k_X11_at_x (d + 1) (T := T) (σ := σ110) (x := xm_) (i := v164) (R := Rm) hk98i (by omega) (by omega) w116 cv165) (fun r166 T168 σ167 gt169 hp => ?_)
            obtain ⟨v173, rfl, rfl, rfl, f170, f171, f172⟩ := hp
            clear gt169
            clear f171
            have f172u := f172
            unfold ATQ at f172u
            show Tn _ _ 115 T σ110 [(3, .int (iI v13)), (0, .ref a), (1, .ref rx1), (2, .int (iI i2))] [.int (iI v173), .int (iI 4), .int (iI i2), .ref rx1] _
            refine tn_callV (M := m_X8_renumber) (pc := 115) (ix := 178) (ci := 1) (M' := m_X1_set) (As := [.int (iI i2), .int (iI 4), .int (iI v173)]) (rest := []) dX8_renumber_115 ok_X1_set im_X1_set se_X1_set ml8_178 np_X1_set rfl rfl h_rx1 rfl (Nat.le_of_ble_eq_true rfl) (Nat.le_of_ble_eq_true rfl) rfl (k_X1_set_x (d + 1) (T := T) (σ := σ110) (a := rx1) (k := i2) (c := 4) (y := v173) (x := x) (n := n) (W := cW σ110 x n) h_rx1 (by omega) (by decide) (by omega) w116 (rc_F F117 (Or.inl (by decide)) (by decide) (rc_F hF (Or.inl (by decide)) (by decide) (hx))) (rc_F F117 (Or.inl (by decide)) (by decide) (rc_F hF (Or.inl (by decide)) (by decide) (hn))) rfl (by omega) (by omega) (by omega) (by omega)) (fun r174 T176 σ175 gt177 hp => ?_)
            obtain ⟨rfl, rfl, w181, F182, f178, f179⟩ := hp
            clear gt177
            show Tn _ _ 118 T σ175 [(3, .int (iI v13)), (0, .ref a), (1, .ref rx1), (2, .int (iI i2))] [] _
            have hio : iOK (cW σ x n i2) := by rw [hN_.at (Int.le_refl i2)]; exact hwok i2 (by omega) (by omega)
            have hio0 := hio.1
            have hv1 : cW σ175 x n = uZ (cW σ x n) i2 (rn2 Rm (rn1 Rm (cW σ x n i2))) := False.elim (by have z := f12; unfold WBQ at z; have z9 := congrFun (congrFun f114 i2) 0; rw [uZ_eq, uZ_ne (by decide)] at z9; omega)
            refine tn_iconst dX8_renumber_118 ?_
            refine tn_istore (L' := [(4, .int (iI 3)), (3, .int (iI v13)), (0, .ref a), (1, .ref rx1), (2, .int (iI i2))]) dX8_renumber_119 (by decide) rfl ?_
            have cv183 : σ175.2.1 (1000 + xm_) = Rm := (CHX.r f178 (by first | (simp; done) | (simp only [List.mem_cons, List.not_mem_nil, or_false, not_or]; omega))).trans (cv165)
            refine tn_sub [2, 3, 4, 0] rfl (l_X8_renumber_x_121 (d) (T := T) (σ0 := σ175) (a := a) (rx1 := rx1) (c2 := i2) (x := x) (n := n) (W := W) (Fq := Fq) (xh := xh) (Rh := Rh) (xm_ := xm_) (Rm := (Rm)) (W1 := (cW σ175 x n)) h_a h_rx1 t_rx1 (by omega) w181 (by omega) (fun c hc q => rn_op hio hv1 hc q) (rc_F F182 (Or.inl (by decide)) (by decide) (rc_F F117 (Or.inl (by decide)) (by decide) (rc_F hF (Or.inl (by decide)) (by decide) (hx)))) (rc_F F182 (Or.inl (by decide)) (by decide) (rc_F F117 (Or.inl (by decide)) (by decide) (rc_F hF (Or.inl (by decide)) (by decide) (hn)))) (rc_F F182 (Or.inl (by decide)) (by decide) (rc_F F117 (Or.inl (by decide)) (by decide) (rc_F hF (Or.inl (by decide)) (by decide) (hFq)))) (rc_F F182 (Or.inl (by decide)) (by decide) (rc_F F117 (Or.inl (by decide)) (by decide) (rc_F hF (Or.inl (by decide)) (by decide) (hxh)))) (rc_F F182 (Or.inl (by decide)) (by decide) (rc_F F117 (Or.inl (by decide)) (by decide) (rc_F hF (Or.inl (by decide)) (by decide) (hxm_)))) cv183 hN hne (fun i4184 σ185 w188 F189 r190 f191 f192 f193 f194 => ?_) _ (3) σ175 w181 FrC.rfl (by omega) CHX.rfl RN3.nil (by omega) rfl)
            show Tn _ _ 170 T σ185 [(0, .ref a), (1, .ref rx1), (2, .int (iI i2)), (4, .int (iI i4184))] [] _
            refine tn_iinc (q0 := 2) (L' := [(2, .int (iI (i2 + 1))), (0, .ref a), (1, .ref rx1), (4, .int (iI i4184))]) dX8_renumber_170 rfl (by decide) rfl ?_
            refine tn_goto (tgt := 44) dX8_renumber_173 (by decide) ?_
            exact tn_sub [1, 2, 0] rfl (ih _ (by omega) (i2 + 1) σ185 w188 ((((FrC.rfl.trans (FrC.sub hF (by decide))).trans (FrC.sub F117 (by decide))).trans (FrC.sub F182 (by decide))).trans (FrC.sub F189 (by decide))) (by omega) (((hC.trans (CHX.sub f113 (by simp) (by simp) (by simp))).trans (CHX.sub f178 (by simp) (by simp) (by simp))).trans (CHX.sub f191 (by simp) (by simp) (by simp))) (hN_.step (by omega) hv1 f192 (by omega)) (by omega) rfl)
set_option maxHeartbeats 1000000 in
set_option maxRecDepth 20000 in
theorem k_X8_renumber_x (d : Nat) {T : CT} {σ : MS} {a : Nat} {p1 : Nat} {x : Nat} {n : Int} {W : Int → It} {Fq : Int} {xh : Nat} {Rh : Int → Int} {xm_ : Nat} {Rm : Int → Int} (ha : OB T a 8) (h_p1 : OB T p1 1) (t_p1 : (T p1).1 = 50) (hw : WT T σ) (hx : σ.2.1 5 p1 = (x : Int)) (hn : σ.2.1 6 p1 = n) (hW : cW σ x n = W) (hFq : σ.2.1 10 p1 = Fq) (hxh : σ.2.1 15 p1 = (xh : Int)) (hRh : σ.2.1 (1000 + xh) = Rh) (hxm_ : σ.2.1 75 a = (xm_ : Int)) (hRm : σ.2.1 (1000 + xm_) = Rm) (hN : n ≤ 200) (hne : x ≠ xh ∧ x ≠ xm_ ∧ xh ≠ xm_) (hwok : WOK W n) : Tn (d + 3) m_X8_renumber 0 T σ [(0, .ref a), (1, .ref p1)] [] (fun ro T2 σ2 => ro = none ∧ T = T2 ∧ WT T2 σ2 ∧ FrC T [] σ σ2 ∧ (CHX [] [x, xh] [] σ σ2) ∧ (RNP W (cW σ2 x n) Rm n) ∧ (RHP Rh (σ2.2.1 (1000 + xh)) Rm (12 * Fq))) := by
  have h6 := wf_6 hw h_p1
  have h10 := wf_10 hw h_p1
  refine tn_iconst dX8_renumber_0 ?_
  refine tn_istore_n (L' := [(2, .int (iI 0)), (0, .ref a), (1, .ref p1)]) dX8_renumber_1 rfl (by decide) rfl ?_
  refine tn_sub [1, 2, 0] rfl (l_X8_renumber_x_2 (d) (T := T) (σ0 := σ) (a := a) (rx1 := p1) (x := x) (n := n) (W := W) (Fq := Fq) (xh := xh) (Rh := Rh) (xm_ := xm_) (Rm := (Rm)) ha h_p1 t_p1 hw (hx) (hn) (hFq) (hxh) (hxm_) hRm hN hne (fun i21 σ2 w5 F6 r7 f8 f9 f10 f11 => ?_) _ (0) σ hw FrC.rfl (by omega) CHX.rfl (by rw [hRh]; exact RHP.nil) (by omega) rfl)
  show Tn _ _ 42 T σ2 [(0, .ref a), (1, .ref p1), (2, .int (iI i21))] [] _
  refine tn_iconst dX8_renumber_42 ?_
  refine tn_istore_n (L' := [(2, .int (iI 0)), (0, .ref a), (1, .ref p1)]) dX8_renumber_43 rfl (by decide) rfl ?_
  have cv12 : cW σ2 x n = W := (cW_row (CHX.r f8 (by first | (simp; done) | (simp only [List.mem_cons, List.not_mem_nil, or_false, not_or]; omega)))).trans (hW)
  have cv13 : σ2.2.1 (1000 + xm_) = Rm := (CHX.r f8 (by first | (simp; done) | (simp only [List.mem_cons, List.not_mem_nil, or_false, not_or]; omega))).trans (hRm)
  refine tn_sub [1, 2, 0] rfl (l_X8_renumber_x_44 (d) (T := T) (σ0 := σ2) (a := a) (rx1 := p1) (x := x) (n := n) (W := W) (Fq := Fq) (xh := xh) (Rh := Rh) (xm_ := xm_) (Rm := (Rm)) ha h_p1 t_p1 w5 (by omega) (by omega) (rc_F F6 (Or.inl (by decide)) (by decide) (hx)) (rc_F F6 (Or.inl (by decide)) (by decide) (hn)) (rc_F F6 (Or.inl (by decide)) (by decide) (hFq)) (rc_F F6 (Or.inl (by decide)) (by decide) (hxh)) (rc_F F6 (Or.inl (by decide)) (by decide) (hxm_)) cv13 hN hne (fun i214 σ15 w18 F19 r20 f21 f22 f23 f24 => ?_) _ (0) σ2 w5 FrC.rfl (by omega) CHX.rfl (by rw [cv12]; exact RNP.nil) (by omega) rfl)
  show Tn _ _ 176 T σ15 [(0, .ref a), (1, .ref p1), (2, .int (iI i214))] [] _
  have cv25 : σ15.2.1 (1000 + xh) = σ2.2.1 (1000 + xh) := (CHX.r f21 (by first | (simp; done) | (simp only [List.mem_cons, List.not_mem_nil, or_false, not_or]; omega))).trans (rfl)
  exact tn_vret rfl dX8_renumber_176 ⟨rfl, rfl, w18, ((FrC.rfl.trans (FrC.sub F6 (by decide))).trans (FrC.sub F19 (by decide))), ((CHX.rfl.trans (CHX.sub f8 (by simp) (by simp) (by simp))).trans (CHX.sub f21 (by simp) (by simp) (by simp))), f24, (by rw [cv25]; exact f11)⟩
end
section
set_option maxHeartbeats 1000000 in
set_option maxRecDepth 20000 in
theorem l_X8_share_x_42 (d : Nat) {T : CT} {σ0 : MS} {a : Nat} {rx1 : Nat} {c2 : Int} {x : Nat} {n : Int} {W : Int → It} {Fq : Int} {xn : Nat} {Rn : Int → Int} {xh : Nat} {Rh : Int → Int} {P : Int} {fl : Nat} {xa : Nat} {xo : Nat} {xf : Nat} {xd : Nat} {xg : Nat} {xm_ : Nat} {xy : Nat} {Ly : Int → Int64} {xr : Nat} {Rr : Int → Int} {xz : Nat} {post : Option Value → CT → MS → Prop} (h_a : OB T a 8) (h_rx1 : OB T rx1 1) (t_rx1 : (T rx1).1 = 50) (r_c2 : 0 ≤ c2 ∧ c2 ≤ 192) (hw0 : WT T σ0) (hn0 : 0 ≤ n) (hq : 0 ≤ c2 ∧ c2 ≤ 192) (hx : σ0.2.1 5 rx1 = (x : Int)) (hn : σ0.2.1 6 rx1 = n) (hxy : σ0.2.1 77 a = (xy : Int)) (hLy : σ0.2.2 xy = Ly) (hxr : σ0.2.1 78 a = (xr : Int)) (hRr : σ0.2.1 (1000 + xr) = Rr) (hN : n ≤ 200) (dq_x_xr : NQ x xr) (hx_85 : ∀ (i3 : Int) (σ : MS) , (WT T σ) → (FrC T [] σ0 σ) → (0 ≤ i3 ∧ i3 ≤ 200) → (CHX [] [x] [] σ0 σ) → (True) → (True) → (UBP W (cW σ x n) n c2 Ly (trR n Rr) n) → Tn (d + 5) m_X8_share 85 T σ [(0, .ref a), (1, .ref rx1), (2, .int (iI c2)), (3, .int (iI i3))] [] post) : ∀ (nq9 : Nat) (i3 : Int) (σ : MS) , (WT T σ) → (FrC T [] σ0 σ) → (0 ≤ i3 ∧ i3 ≤ 200) → (CHX [] [x] [] σ0 σ) → (UBP W (cW σ x n) n c2 Ly (trR n Rr) i3) → (i3 ≤ n) → (2147483700 - i3).toNat = nq9 → Tn (d + 5) m_X8_share 42 T σ [(0, .ref a), (1, .ref rx1), (2, .int (iI c2)), (3, .int (iI i3))] [] post := by
  intro nq9
  induction nq9 using Nat.strongRecOn with
  | _ nq9 ih =>
    intro i3 σ hw hF r_i3 hC hU_ h3 hm
    refine tn_iload_n dX8_share_42 rfl 3 rfl ?_
    refine tn_aload_n dX8_share_43 rfl 1 rfl ?_
    refine tn_getI (ci := 1) (i := 1) (n := 6) (t := σ0.2.1 6 rx1) dX8_share_44 rfl lay_1 (by decide) fl8_70 h_rx1 rfl rfl (rc_F hF (Or.inl (by decide)) (by decide) (rfl)) ?_
    have g1 : ((0 : Int) ≤ σ0.2.1 6 rx1 ∧ σ0.2.1 6 rx1 ≤ 5000) ∧ ((T rx1).1 = 50 → σ0.2.1 6 rx1 ≤ 200) := wf_6 hw0 h_rx1
    have g1x := g1.2
    replace g1 := g1.1
    have g1x := g1x t_rx1
    refine tn_icmp_ge (tgt := 85) dX8_share_47 (by decide) ⟨by omega, by omega⟩ ⟨by omega, by omega⟩ (fun h2 => ?_) (fun h2 => ?_)
    · exact tn_sub [0, 1, 2, 3] rfl (hx_85 (i3) σ hw (FrC.rfl.trans (FrC.sub hF (by decide))) (by omega) hC True.intro True.intro (hU_.to (by omega)))
    · refine tn_aload_n dX8_share_50 rfl 0 rfl ?_
      obtain ⟨hk5, hl6⟩ : AR T xr 1 201 201 := ar_of (wf_78 hw0 h_a) hxr
      have hk5i : IA T xr := by unfold IA; omega
      refine tn_getR (ci := 8) (i := 6) (n := 78) (x := xr) dX8_share_51 rfl lay_8 (by decide) fl8_28 h_a rfl rfl (rc_F hF (Or.inl (by decide)) (by decide) (hxr)) ?_
      refine tn_iload_n dX8_share_54 rfl 3 rfl ?_
      have cv7 : σ.2.1 (1000 + xr) = Rr := (CHX.r hC (by first | (simp; done) | (simp only [List.mem_cons, List.not_mem_nil, or_false, not_or]; first | omega | ((repeat' apply And.intro) <;> first | assumption | (apply Ne.symm; assumption))))).trans (hRr)
      refine tn_callSN (M := m_X8_share) (pc := 55) (ix := 74) (M' := m_X11_at) (As := [.ref xr, .int (iI i3)]) (rest := []) dX8_share_55 ok_X11_at stt_X11_at nl8_74 np_X11_at rfl (Nat.le_of_ble_eq_true rfl) (Nat.le_of_ble_eq_true rfl) rfl (k_X11_at_x (d + 3) (T := T) (σ := σ) (x := xr) (i := i3) (R := Rr) hk5i (by omega) (by omega) hw cv7) (fun r8 T10 σ9 gt11 hp => ?_)
      obtain ⟨v15, rfl, rfl, rfl, f12, f13, f14⟩ := hp
      clear gt11
      clear f13
      have f14u := f14
      unfold ATQ at f14u
      show Tn _ _ 58 T σ [(0, .ref a), (1, .ref rx1), (2, .int (iI c2)), (3, .int (iI i3))] [.int (iI v15)] _
      refine tn_if_eq (tgt := 79) dX8_share_58 (by decide) ⟨by omega, by omega⟩ (fun h16 => ?_) (fun h16 => ?_)
      · refine tn_iinc (q0 := 3) (L' := [(3, .int (iI (i3 + 1))), (0, .ref a), (1, .ref rx1), (2, .int (iI c2))]) dX8_share_79 rfl (by decide) rfl ?_
        refine tn_goto (tgt := 42) dX8_share_82 (by decide) ?_
        exact tn_sub [1, 2, 3, 0] rfl (ih _ (by omega) (i3 + 1) σ hw (FrC.rfl.trans (FrC.sub hF (by decide))) (by omega) hC (hU_.no (fun z => z.1 (by rw [trR_in ⟨by omega, by omega⟩]; have z := f14; unfold ATQ at z; omega))) (by omega) rfl)
      · refine tn_aload_n dX8_share_61 rfl 0 rfl ?_
        refine tn_aload_n dX8_share_62 rfl 1 rfl ?_
        refine tn_iload_n dX8_share_63 rfl 3 rfl ?_
        refine tn_iload_n dX8_share_64 rfl 2 rfl ?_
        obtain ⟨hl20, hk19a, hk19b⟩ := cel_of (wf_5 hw0 h_rx1) hx
        have hk19 : (T x).1 = 1 := hk19a (by omega)
        clear hk19a hk19b
        have hk19i : IA T x := by unfold IA; omega
        obtain ⟨hk23, hl24⟩ : AR T xy 3 603 603 := ar_of (wf_77 hw0 h_a) hxy
        have cv25 : σ.2.2 xy = Ly := (CHX.l hC (by first | (simp; done) | (simp only [List.mem_cons, List.not_mem_nil, or_false, not_or]; first | omega | ((repeat' apply And.intro) <;> first | assumption | (apply Ne.symm; assumption))))).trans (hLy)
        refine tn_callV (M := m_X8_share) (pc := 65) (ix := 78) (ci := 8) (M' := m_X8_leansOnLost) (As := [.ref rx1, .int (iI i3), .int (iI c2)]) (rest := []) dX8_share_65 ok_X8_leansOnLost im_X8_leansOnLost se_X8_leansOnLost ml8_78 np_X8_leansOnLost rfl rfl h_a rfl (Nat.le_of_ble_eq_true rfl) (Nat.le_of_ble_eq_true rfl) rfl (k_X8_leansOnLost_x (d + 1) (T := T) (σ := σ) (a := a) (p1 := rx1) (p2 := i3) (p3 := c2) (x := x) (n := n) (W := cW σ x n) (xy := xy) (Ly := Ly) h_a h_rx1 t_rx1 (by omega) (by omega) hw (rc_F hF (Or.inl (by decide)) (by decide) (hx)) (rc_F hF (Or.inl (by decide)) (by decide) (hn)) rfl (rc_F hF (Or.inl (by decide)) (by decide) (hxy)) cv25 (by omega) (by omega) (by omega)) (fun r26 T28 σ27 gt29 hp => ?_)
        obtain ⟨v32, rfl, rfl, rfl, f30, f31⟩ := hp
        clear gt29
        show Tn _ _ 68 T σ [(0, .ref a), (1, .ref rx1), (2, .int (iI c2)), (3, .int (iI i3))] [.int (iI v32)] _
        refine tn_if_eq (tgt := 79) dX8_share_68 (by decide) ⟨by omega, by omega⟩ (fun h33 => ?_) (fun h33 => ?_)
        · refine tn_iinc (q0 := 3) (L' := [(3, .int (iI (i3 + 1))), (0, .ref a), (1, .ref rx1), (2, .int (iI c2))]) dX8_share_79 rfl (by decide) rfl ?_
          refine tn_goto (tgt := 42) dX8_share_82 (by decide) ?_
          exact tn_sub [1, 2, 3, 0] rfl (ih _ (by omega) (i3 + 1) σ hw (FrC.rfl.trans (FrC.sub hF (by decide))) (by omega) hC (hU_.no (fun z => (f31.resolve_left (fun q => absurd q.1 (by omega))).2 z.2)) (by omega) rfl)
        · refine tn_aload_n dX8_share_71 rfl 1 rfl ?_
          refine tn_iload_n dX8_share_72 rfl 3 rfl ?_
          refine tn_bipush dX8_share_73 (by decide) ?_
          refine tn_iconst dX8_share_75 ?_
          refine tn_callV (M := m_X8_share) (pc := 76) (ix := 82) (ci := 1) (M' := m_X1_setWhere) (As := [.int (iI i3), .int (iI 13), .int (iI 0)]) (rest := []) dX8_share_76 ok_X1_setWhere im_X1_setWhere se_X1_setWhere ml8_82 np_X1_setWhere rfl rfl h_rx1 rfl (Nat.le_of_ble_eq_true rfl) (Nat.le_of_ble_eq_true rfl) rfl (k_X1_setWhere_x (d + 2) (T := T) (σ := σ) (a := rx1) (k := i3) (y := 13) (z := 0) (x := x) (n := n) (W := cW σ x n) h_rx1 (by omega) (by decide) (by decide) hw (rc_F hF (Or.inl (by decide)) (by decide) (hx)) (rc_F hF (Or.inl (by decide)) (by decide) (hn)) rfl (by omega) (by omega)) (fun r34 T36 σ35 gt37 hp => ?_)
          obtain ⟨rfl, rfl, w41, F42, f38, f39⟩ := hp
          clear gt37
          show Tn _ _ 79 T σ35 [(0, .ref a), (1, .ref rx1), (2, .int (iI c2)), (3, .int (iI i3))] [] _
          refine tn_iinc (q0 := 3) (L' := [(3, .int (iI (i3 + 1))), (0, .ref a), (1, .ref rx1), (2, .int (iI c2))]) dX8_share_79 rfl (by decide) rfl ?_
          refine tn_goto (tgt := 42) dX8_share_82 (by decide) ?_
          exact tn_sub [1, 2, 3, 0] rfl (ih _ (by omega) (i3 + 1) σ35 w41 ((FrC.rfl.trans (FrC.sub hF (by decide))).trans (FrC.sub F42 (by decide))) (by omega) (hC.trans (CHX.sub f38 (by simp) (by simp) (by simp))) (hU_.yes (by omega) (by rw [trR_in ⟨by omega, by omega⟩]; have z := f14; unfold ATQ at z; omega) (f31.resolve_right (fun q => absurd q.1 (by omega))).2 f39) (by omega) rfl)
set_option maxHeartbeats 1000000 in
set_option maxRecDepth 20000 in
theorem k_X8_share_x (d : Nat) {T : CT} {σ : MS} {a : Nat} {p1 : Nat} {x : Nat} {n : Int} {W : Int → It} {Fq : Int} {xn : Nat} {Rn : Int → Int} {xh : Nat} {Rh : Int → Int} {P : Int} {fl : Nat} {xa : Nat} {xo : Nat} {xf : Nat} {xd : Nat} {xg : Nat} {xm_ : Nat} {xy : Nat} {Ly : Int → Int64} {xr : Nat} {Rr : Int → Int} {xz : Nat} (ha : OB T a 8) (h_p1 : OB T p1 1) (t_p1 : (T p1).1 = 50) (hw : WT T σ) (hx : σ.2.1 5 p1 = (x : Int)) (hn : σ.2.1 6 p1 = n) (hW : cW σ x n = W) (hFq : σ.2.1 10 p1 = Fq) (hxn : σ.2.1 14 p1 = (xn : Int)) (hRn : σ.2.1 (1000 + xn) = Rn) (hxh : σ.2.1 15 p1 = (xh : Int)) (hRh : σ.2.1 (1000 + xh) = Rh) (hP : σ.2.1 8 p1 = P) (hfl : σ.2.1 72 a = (fl : Int)) (hxa : σ.2.1 18 fl = (xa : Int)) (hxo : σ.2.1 19 fl = (xo : Int)) (hxf : σ.2.1 74 a = (xf : Int)) (hxd : σ.2.1 73 a = (xd : Int)) (hxg : σ.2.1 76 a = (xg : Int)) (hxm_ : σ.2.1 75 a = (xm_ : Int)) (hxy : σ.2.1 77 a = (xy : Int)) (hLy : σ.2.2 xy = Ly) (hxr : σ.2.1 78 a = (xr : Int)) (hRr : σ.2.1 (1000 + xr) = Rr) (hxz : σ.2.1 79 a = (xz : Int)) (hN : n ≤ 200) (dq_xa_xo : NQ xa xo) (dq_xa_xf : NQ xa xf) (dq_xa_xd : NQ xa xd) (dq_xa_xg : NQ xa xg) (dq_xa_xy : NQ xa xy) (dq_xa_xz : NQ xa xz) (dq_xo_xf : NQ xo xf) (dq_xo_xd : NQ xo xd) (dq_xo_xg : NQ xo xg) (dq_xo_xy : NQ xo xy) (dq_xo_xz : NQ xo xz) (dq_xf_xd : NQ xf xd) (dq_xf_xg : NQ xf xg) (dq_xf_xy : NQ xf xy) (dq_xf_xz : NQ xf xz) (dq_xd_xg : NQ xd xg) (dq_xd_xy : NQ xd xy) (dq_xd_xz : NQ xd xz) (dq_xg_xy : NQ xg xy) (dq_xg_xz : NQ xg xz) (dq_xy_xz : NQ xy xz) (dq_x_xn : NQ x xn) (dq_x_xh : NQ x xh) (dq_x_xm_ : NQ x xm_) (dq_x_xr : NQ x xr) (dq_xn_xh : NQ xn xh) (dq_xn_xm_ : NQ xn xm_) (dq_xn_xr : NQ xn xr) (dq_xh_xm_ : NQ xh xm_) (dq_xh_xr : NQ xh xr) (dq_xm__xr : NQ xm_ xr) (hwok : WOK W n) (hmok : MOK W n) (hLk : LNK W n) (hU : UNQ (vW W) n) (hna : HNO Rn Rh Fq) (hgn : GNK W n) (hpn : P ≤ Rn 0 ∧ 1 ≤ Fq) (hrn12 : ∀ f, 0 ≤ f → f < Fq → Rn f ≤ 12) : Tn (d + 5) m_X8_share 0 T σ [(0, .ref a), (1, .ref p1)] [] (fun ro T2 σ2 => ∃ v : Int, ro = some (.int (iI v)) ∧ T = T2 ∧ WT T2 σ2 ∧ FrC T [80] σ σ2 ∧ (0 ≤ v ∧ v ≤ 192) ∧ (CHX [(80, a)] [x, xh, xm_, xr] [xa, xo, xf, xd, xg, xy, xz] σ σ2) ∧ (SHC W (cW σ2 x n) n P Fq Rn Rh (σ2.2.1 (1000 + xh)) v) ∧ (WOK (cW σ2 x n) n) ∧ (HNO Rn (σ2.2.1 (1000 + xh)) Fq)) := by
  have h6 := wf_6 hw h_p1
  have h8 := wf_8 hw h_p1
  have h6n : 0 ≤ n := by omega
  refine tn_aload_n dX8_share_0 rfl 0 rfl ?_
  have hk3 : (T fl).1 = 33 := ob_of (wf_72 hw ha) hfl
  have hk3o : OB T fl 3 := ⟨by omega, by rw [hk3]; rfl, by omega⟩
  refine tn_getR (ci := 8) (i := 0) (n := 72) (x := fl) dX8_share_1 rfl lay_8 (by decide) fl8_34 ha rfl rfl (hfl) ?_
  refine tn_aload_n dX8_share_4 rfl 1 rfl ?_
  obtain ⟨hl8, hk7a, hk7b⟩ := cel_of (wf_5 hw h_p1) hx
  have hk7 : (T x).1 = 1 := hk7a (by omega)
  clear hk7a hk7b
  have hk7i : IA T x := by unfold IA; omega
  obtain ⟨hk11, hl12⟩ : AR T xa 3 603 603 := ar_of (wf_18 hw hk3o) hxa
  obtain ⟨hk15, hl16⟩ : AR T xo 3 3 3 := ar_of (wf_19 hw hk3o) hxo
  refine tn_callV (M := m_X8_share) (pc := 5) (ix := 38) (ci := 3) (M' := m_X3_findLiving) (As := [.ref p1]) (rest := []) dX8_share_5 ok_X3_findLiving im_X3_findLiving se_X3_findLiving ml8_38 np_X3_findLiving rfl rfl hk3o rfl (Nat.le_of_ble_eq_true rfl) (Nat.le_of_ble_eq_true rfl) rfl (k_X3_findLiving_x (d) (T := T) (σ := σ) (a := fl) (p1 := p1) (x := x) (n := n) (W := W) (xa := xa) (La := σ.2.2 xa) (xo := xo) hk3o h_p1 t_p1 hw (hx) (hn) hW (hxa) rfl (hxo) (by omega) dq_xa_xo hwok hmok hLk hU) (fun r17 T19 σ18 gt20 hp => ?_)
  obtain ⟨rfl, rfl, w24, F25, f21, f22⟩ := hp
  clear gt20
  show Tn _ _ 8 T σ18 [(0, .ref a), (1, .ref p1)] [] _
  refine tn_aload_n dX8_share_8 rfl 1 rfl ?_
  have cv26 : cW σ18 x n = W := (cW_row (CHX.r f21 (by first | (simp; done) | (simp only [List.mem_cons, List.not_mem_nil, or_false, not_or]; first | omega | ((repeat' apply And.intro) <;> first | assumption | (apply Ne.symm; assumption)))))).trans (hW)
  obtain ⟨hk29, hl30⟩ : AR T xn 11 12 12 := ar_of (wf_14 hw h_p1) hxn
  have hk29i : IA T xn := by unfold IA; omega
  have cv31 : σ18.2.1 (1000 + xn) = Rn := (CHX.r f21 (by first | (simp; done) | (simp only [List.mem_cons, List.not_mem_nil, or_false, not_or]; first | omega | ((repeat' apply And.intro) <;> first | assumption | (apply Ne.symm; assumption))))).trans (hRn)
  obtain ⟨hk34, hl35⟩ : AR T xh 1 144 144 := ar_of (wf_15 hw h_p1) hxh
  have hk34i : IA T xh := by unfold IA; omega
  have cv36 : σ18.2.1 (1000 + xh) = Rh := (CHX.r f21 (by first | (simp; done) | (simp only [List.mem_cons, List.not_mem_nil, or_false, not_or]; first | omega | ((repeat' apply And.intro) <;> first | assumption | (apply Ne.symm; assumption))))).trans (hRh)
  refine tn_callV (M := m_X8_share) (pc := 9) (ix := 44) (ci := 1) (M' := m_X1_registers) (As := []) (rest := []) dX8_share_9 ok_X1_registers im_X1_registers se_X1_registers ml8_44 np_X1_registers rfl rfl h_p1 rfl (Nat.le_of_ble_eq_true rfl) (Nat.le_of_ble_eq_true rfl) rfl (k_X1_registers_x (d) (T := T) (σ := σ18) (a := p1) (x := x) (n := n) (W := W) (Fq := Fq) (xn := xn) (Rn := Rn) (xh := xh) (Rh := Rh) h_p1 w24 (rc_F F25 (Or.inl (by decide)) (by decide) (hx)) (rc_F F25 (Or.inl (by decide)) (by decide) (hn)) cv26 (rc_F F25 (Or.inl (by decide)) (by decide) (hFq)) (rc_F F25 (Or.inl (by decide)) (by decide) (hxn)) cv31 (rc_F F25 (Or.inl (by decide)) (by decide) (hxh)) cv36 (by omega) hwok hna) (fun r37 T39 σ38 gt40 hp => ?_)
  obtain ⟨v43, rfl, rfl, rfl, f41, f42⟩ := hp
  clear gt40
  show Tn _ _ 12 T σ18 [(0, .ref a), (1, .ref p1)] [.int (iI v43)] _
  refine tn_sipush dX8_share_12 (by decide) ?_
  refine tn_mmin (x := v43) (y := 192) dX8_share_15 mlm8_50 stM_min iniM cdM_min (by omega) (Nat.le_of_ble_eq_true rfl) ⟨by omega, by omega⟩ ⟨by omega, by omega⟩ (fun z44 g45 => ?_)
  have hq9 : z44 = v43 := by omega
  have hm9 : rgV (vW W) n (hmC Fq Rn Rh) (z44) := by rw [hq9]; exact f42.2.1
  have hr9 : RLT W n (z44) P Rh := RLT.mk hm9 hwok hpn hna
  refine tn_istore_n (L' := [(2, .int (iI z44)), (0, .ref a), (1, .ref p1)]) dX8_share_18 rfl (by decide) rfl ?_
  refine tn_aload_n dX8_share_19 rfl 1 rfl ?_
  refine tn_aload_n dX8_share_20 rfl 2 rfl ?_
  obtain ⟨hk48, hl49⟩ : AR T xf 3 3 3 := ar_of (wf_74 hw ha) hxf
  refine tn_callV (M := m_X8_share) (pc := 21) (ix := 56) (ci := 8) (M' := m_X8_findFirst) (As := [.ref p1]) (rest := []) dX8_share_21 ok_X8_findFirst im_X8_findFirst se_X8_findFirst ml8_56 np_X8_findFirst rfl rfl ha rfl (Nat.le_of_ble_eq_true rfl) (Nat.le_of_ble_eq_true rfl) rfl (k_X8_findFirst_x (d + 1) (T := T) (σ := σ18) (a := a) (p1 := p1) (fl := fl) (xa := xa) (La := σ18.2.2 xa) (xf := xf) (P := P) (xh := xh) (Rh := Rh) ha h_p1 t_p1 w24 (rc_F F25 (Or.inl (by decide)) (by decide) (hfl)) (rc_F F25 (Or.inl (by decide)) (by decide) (hxa)) rfl (rc_F F25 (Or.inl (by decide)) (by decide) (hxf)) (rc_F F25 (Or.inl (by decide)) (by decide) (hP)) (rc_F F25 (Or.inl (by decide)) (by decide) (hxh)) cv36 dq_xa_xf) (fun r50 T52 σ51 gt53 hp => ?_)
  obtain ⟨rfl, rfl, w57, F58, f54, f55⟩ := hp
  clear gt53
  show Tn _ _ 24 T σ51 [(2, .int (iI z44)), (0, .ref a), (1, .ref p1)] [] _
  refine tn_aload_n dX8_share_24 rfl 1 rfl ?_
  refine tn_aload_n dX8_share_25 rfl 2 rfl ?_
  refine tn_iload_n dX8_share_26 rfl 0 rfl ?_
  have cv59 : cW σ51 x n = W := (cW_row (CHX.r f54 (by first | (simp; done) | (simp only [List.mem_cons, List.not_mem_nil, or_false, not_or]; first | omega | ((repeat' apply And.intro) <;> first | assumption | (apply Ne.symm; assumption)))))).trans (cv26)
  have cv60 : σ51.2.2 xa = σ18.2.2 xa := (CHX.l f54 (by first | (simp; done) | (simp only [List.mem_cons, List.not_mem_nil, or_false, not_or]; first | omega | ((repeat' apply And.intro) <;> first | assumption | (apply Ne.symm; assumption))))).trans (rfl)
  obtain ⟨hk63, hl64⟩ : AR T xd 3 576 576 := ar_of (wf_73 hw ha) hxd
  refine tn_callV (M := m_X8_share) (pc := 27) (ix := 59) (ci := 8) (M' := m_X8_findOdds) (As := [.ref p1, .int (iI z44)]) (rest := []) dX8_share_27 ok_X8_findOdds im_X8_findOdds se_X8_findOdds ml8_59 np_X8_findOdds rfl rfl ha rfl (Nat.le_of_ble_eq_true rfl) (Nat.le_of_ble_eq_true rfl) rfl (k_X8_findOdds_x (d) (T := T) (σ := σ51) (a := a) (p1 := p1) (p2 := z44) (x := x) (n := n) (W := W) (fl := fl) (xa := xa) (La := σ18.2.2 xa) (xf := xf) (Lf := σ51.2.2 xf) (xd := xd) ha h_p1 t_p1 (by omega) w57 (rc_F F58 (Or.inl (by decide)) (by decide) (rc_F F25 (Or.inl (by decide)) (by decide) (hx))) (rc_F F58 (Or.inl (by decide)) (by decide) (rc_F F25 (Or.inl (by decide)) (by decide) (hn))) cv59 (rc_F F58 (Or.inl (by decide)) (by decide) (rc_F F25 (Or.inl (by decide)) (by decide) (hfl))) (rc_F F58 (Or.inl (by decide)) (by decide) (rc_F F25 (Or.inl (by decide)) (by decide) (hxa))) cv60 (rc_F F58 (Or.inl (by decide)) (by decide) (rc_F F25 (Or.inl (by decide)) (by decide) (hxf))) rfl (rc_F F58 (Or.inl (by decide)) (by decide) (rc_F F25 (Or.inl (by decide)) (by decide) (hxd))) (by omega) (by omega) ⟨dq_xa_xd, dq_xf_xd⟩ (by omega) (fun i g a b w => (hr9.2 i a b g (Or.inl (wrT_v.mpr w))).2)) (fun r65 T67 σ66 gt68 hp => ?_)
  obtain ⟨rfl, rfl, w72, F73, f69, f70⟩ := hp
  clear gt68
  show Tn _ _ 30 T σ66 [(2, .int (iI z44)), (0, .ref a), (1, .ref p1)] [] _
  refine tn_aload_n dX8_share_30 rfl 1 rfl ?_
  refine tn_iload_n dX8_share_31 rfl 0 rfl ?_
  obtain ⟨hk76, hl77⟩ : AR T xg 3 576 576 := ar_of (wf_76 hw ha) hxg
  obtain ⟨hk80, hl81⟩ : AR T xm_ 1 192 192 := ar_of (wf_75 hw ha) hxm_
  have hk80i : IA T xm_ := by unfold IA; omega
  refine tn_callV (M := m_X8_share) (pc := 32) (ix := 63) (ci := 8) (M' := m_X8_numberAnew) (As := [.int (iI z44)]) (rest := []) dX8_share_32 ok_X8_numberAnew im_X8_numberAnew se_X8_numberAnew ml8_63 np_X8_numberAnew rfl rfl ha rfl (Nat.le_of_ble_eq_true rfl) (Nat.le_of_ble_eq_true rfl) rfl (k_X8_numberAnew_x (d) (T := T) (σ := σ66) (a := a) (p1 := z44) (xg := xg) (xd := xd) (Ld := σ66.2.2 xd) (xm_ := xm_) ha (by omega) w72 (rc_F F73 (Or.inl (by decide)) (by decide) (rc_F F58 (Or.inl (by decide)) (by decide) (rc_F F25 (Or.inl (by decide)) (by decide) (hxg)))) (rc_F F73 (Or.inl (by decide)) (by decide) (rc_F F58 (Or.inl (by decide)) (by decide) (rc_F F25 (Or.inl (by decide)) (by decide) (hxd)))) rfl (rc_F F73 (Or.inl (by decide)) (by decide) (rc_F F58 (Or.inl (by decide)) (by decide) (rc_F F25 (Or.inl (by decide)) (by decide) (hxm_)))) dq_xd_xg.s (by omega)) (fun r82 T84 σ83 gt85 hp => ?_)
  obtain ⟨rfl, rfl, w89, F90, f86, f87⟩ := hp
  clear gt85
  show Tn _ _ 35 T σ83 [(2, .int (iI z44)), (0, .ref a), (1, .ref p1)] [] _
  refine tn_aload_n dX8_share_35 rfl 1 rfl ?_
  refine tn_aload_n dX8_share_36 rfl 2 rfl ?_
  have cv91 : cW σ83 x n = W := (cW_row (CHX.r f86 (by first | (simp; done) | (simp only [List.mem_cons, List.not_mem_nil, or_false, not_or]; first | omega | ((repeat' apply And.intro) <;> first | assumption | (apply Ne.symm; assumption)))))).trans ((cW_row (CHX.r f69 (by first | (simp; done) | (simp only [List.mem_cons, List.not_mem_nil, or_false, not_or]; first | omega | ((repeat' apply And.intro) <;> first | assumption | (apply Ne.symm; assumption)))))).trans (cv59))
  have cv92 : σ83.2.2 xf = σ51.2.2 xf := (CHX.l f86 (by first | (simp; done) | (simp only [List.mem_cons, List.not_mem_nil, or_false, not_or]; first | omega | ((repeat' apply And.intro) <;> first | assumption | (apply Ne.symm; assumption))))).trans ((CHX.l f69 (by first | (simp; done) | (simp only [List.mem_cons, List.not_mem_nil, or_false, not_or]; first | omega | ((repeat' apply And.intro) <;> first | assumption | (apply Ne.symm; assumption))))).trans (rfl))
  obtain ⟨hk95, hl96⟩ : AR T xy 3 603 603 := ar_of (wf_77 hw ha) hxy
  have cv97 : σ83.2.2 xy = Ly := (CHX.l f86 (by first | (simp; done) | (simp only [List.mem_cons, List.not_mem_nil, or_false, not_or]; first | omega | ((repeat' apply And.intro) <;> first | assumption | (apply Ne.symm; assumption))))).trans ((CHX.l f69 (by first | (simp; done) | (simp only [List.mem_cons, List.not_mem_nil, or_false, not_or]; first | omega | ((repeat' apply And.intro) <;> first | assumption | (apply Ne.symm; assumption))))).trans ((CHX.l f54 (by first | (simp; done) | (simp only [List.mem_cons, List.not_mem_nil, or_false, not_or]; first | omega | ((repeat' apply And.intro) <;> first | assumption | (apply Ne.symm; assumption))))).trans ((CHX.l f21 (by first | (simp; done) | (simp only [List.mem_cons, List.not_mem_nil, or_false, not_or]; first | omega | ((repeat' apply And.intro) <;> first | assumption | (apply Ne.symm; assumption))))).trans (hLy))))
  obtain ⟨hk100, hl101⟩ : AR T xz 3 3 3 := ar_of (wf_79 hw ha) hxz
  obtain ⟨hk104, hl105⟩ : AR T xr 1 201 201 := ar_of (wf_78 hw ha) hxr
  have hk104i : IA T xr := by unfold IA; omega
  have cv106 : σ83.2.1 (1000 + xr) = Rr := (CHX.r f86 (by first | (simp; done) | (simp only [List.mem_cons, List.not_mem_nil, or_false, not_or]; first | omega | ((repeat' apply And.intro) <;> first | assumption | (apply Ne.symm; assumption))))).trans ((CHX.r f69 (by first | (simp; done) | (simp only [List.mem_cons, List.not_mem_nil, or_false, not_or]; first | omega | ((repeat' apply And.intro) <;> first | assumption | (apply Ne.symm; assumption))))).trans ((CHX.r f54 (by first | (simp; done) | (simp only [List.mem_cons, List.not_mem_nil, or_false, not_or]; first | omega | ((repeat' apply And.intro) <;> first | assumption | (apply Ne.symm; assumption))))).trans ((CHX.r f21 (by first | (simp; done) | (simp only [List.mem_cons, List.not_mem_nil, or_false, not_or]; first | omega | ((repeat' apply And.intro) <;> first | assumption | (apply Ne.symm; assumption))))).trans (hRr))))
  refine tn_callV (M := m_X8_share) (pc := 37) (ix := 67) (ci := 8) (M' := m_X8_findLatest) (As := [.ref p1]) (rest := []) dX8_share_37 ok_X8_findLatest im_X8_findLatest se_X8_findLatest ml8_67 np_X8_findLatest rfl rfl ha rfl (Nat.le_of_ble_eq_true rfl) (Nat.le_of_ble_eq_true rfl) rfl (k_X8_findLatest_x (d) (T := T) (σ := σ83) (a := a) (p1 := p1) (x := x) (n := n) (W := W) (xg := xg) (Lg := σ83.2.2 xg) (xm_ := xm_) (Rm := σ83.2.1 (1000 + xm_)) (xf := xf) (Lf := σ51.2.2 xf) (xy := xy) (Ly := Ly) (xz := xz) (Lz := σ83.2.2 xz) (xr := xr) (Rr := Rr) (cc := σ.2.1 80 a) (bg := (bgV (vW W) n (pmC Rh P))) (q := (z44)) ha h_p1 t_p1 w89 (rc_F F90 (Or.inl (by decide)) (by decide) (rc_F F73 (Or.inl (by decide)) (by decide) (rc_F F58 (Or.inl (by decide)) (by decide) (rc_F F25 (Or.inl (by decide)) (by decide) (hx))))) (rc_F F90 (Or.inl (by decide)) (by decide) (rc_F F73 (Or.inl (by decide)) (by decide) (rc_F F58 (Or.inl (by decide)) (by decide) (rc_F F25 (Or.inl (by decide)) (by decide) (hn))))) cv91 (rc_F F90 (Or.inl (by decide)) (by decide) (rc_F F73 (Or.inl (by decide)) (by decide) (rc_F F58 (Or.inl (by decide)) (by decide) (rc_F F25 (Or.inl (by decide)) (by decide) (hxg))))) rfl (rc_F F90 (Or.inl (by decide)) (by decide) (rc_F F73 (Or.inl (by decide)) (by decide) (rc_F F58 (Or.inl (by decide)) (by decide) (rc_F F25 (Or.inl (by decide)) (by decide) (hxm_))))) rfl (rc_F F90 (Or.inl (by decide)) (by decide) (rc_F F73 (Or.inl (by decide)) (by decide) (rc_F F58 (Or.inl (by decide)) (by decide) (rc_F F25 (Or.inl (by decide)) (by decide) (hxf))))) cv92 (rc_F F90 (Or.inl (by decide)) (by decide) (rc_F F73 (Or.inl (by decide)) (by decide) (rc_F F58 (Or.inl (by decide)) (by decide) (rc_F F25 (Or.inl (by decide)) (by decide) (hxy))))) cv97 (rc_F F90 (Or.inl (by decide)) (by decide) (rc_F F73 (Or.inl (by decide)) (by decide) (rc_F F58 (Or.inl (by decide)) (by decide) (rc_F F25 (Or.inl (by decide)) (by decide) (hxz))))) rfl (rc_F F90 (Or.inl (by decide)) (by decide) (rc_F F73 (Or.inl (by decide)) (by decide) (rc_F F58 (Or.inl (by decide)) (by decide) (rc_F F25 (Or.inl (by decide)) (by decide) (hxr))))) cv106 (rc_F F90 (Or.inl (by decide)) (by decide) (rc_F F73 (Or.inl (by decide)) (by decide) (rc_F F58 (Or.inl (by decide)) (by decide) (rc_F F25 (Or.inl (by decide)) (by decide) (rfl))))) (by omega) hwok ⟨dq_xy_xz, dq_xg_xz, dq_x_xr, dq_xg_xy, dq_xm__xr, dq_xf_xy, dq_xf_xz⟩ (nap_grp f87) (fun i g a b w => hr9.2 i a b g (Or.inl (wrT_v.mpr w))) (fun u a b => sh_bg h6n f22 f55 (by omega)) (by omega) hLk hU) (fun r107 T109 σ108 gt110 hp => ?_)
  obtain ⟨rfl, rfl, w114, F115, f111, f112⟩ := hp
  clear gt110
  show Tn _ _ 40 T σ108 [(2, .int (iI z44)), (0, .ref a), (1, .ref p1)] [] _
  refine tn_iconst dX8_share_40 ?_
  refine tn_istore_n (L' := [(3, .int (iI 0)), (2, .int (iI z44)), (0, .ref a), (1, .ref p1)]) dX8_share_41 rfl (by decide) rfl ?_
  have cv116 : cW σ108 x n = W := (cW_row (CHX.r f111 (by first | (simp; done) | (simp only [List.mem_cons, List.not_mem_nil, or_false, not_or]; first | omega | ((repeat' apply And.intro) <;> first | assumption | (apply Ne.symm; assumption)))))).trans (cv91)
  refine tn_sub [2, 3, 1, 0] rfl (l_X8_share_x_42 (d) (T := T) (σ0 := σ108) (a := a) (rx1 := p1) (c2 := z44) (x := x) (n := n) (W := W) (Fq := Fq) (xn := xn) (Rn := Rn) (xh := xh) (Rh := Rh) (P := P) (fl := fl) (xa := xa) (xo := xo) (xf := xf) (xd := xd) (xg := xg) (xm_ := xm_) (xy := xy) (Ly := (σ108.2.2 xy)) (xr := xr) (Rr := (σ108.2.1 (1000 + xr))) (xz := xz) ha h_p1 t_p1 (by omega) w114 (by omega) (by omega) (rc_F F115 (Or.inl (by decide)) (by decide) (rc_F F90 (Or.inl (by decide)) (by decide) (rc_F F73 (Or.inl (by decide)) (by decide) (rc_F F58 (Or.inl (by decide)) (by decide) (rc_F F25 (Or.inl (by decide)) (by decide) (hx)))))) (rc_F F115 (Or.inl (by decide)) (by decide) (rc_F F90 (Or.inl (by decide)) (by decide) (rc_F F73 (Or.inl (by decide)) (by decide) (rc_F F58 (Or.inl (by decide)) (by decide) (rc_F F25 (Or.inl (by decide)) (by decide) (hn)))))) (rc_F F115 (Or.inl (by decide)) (by decide) (rc_F F90 (Or.inl (by decide)) (by decide) (rc_F F73 (Or.inl (by decide)) (by decide) (rc_F F58 (Or.inl (by decide)) (by decide) (rc_F F25 (Or.inl (by decide)) (by decide) (hxy)))))) rfl (rc_F F115 (Or.inl (by decide)) (by decide) (rc_F F90 (Or.inl (by decide)) (by decide) (rc_F F73 (Or.inl (by decide)) (by decide) (rc_F F58 (Or.inl (by decide)) (by decide) (rc_F F25 (Or.inl (by decide)) (by decide) (hxr)))))) rfl hN dq_x_xr (fun i3117 σ118 w121 F122 r123 f124 f125 f126 f127 => ?_) _ (0) σ108 w114 FrC.rfl (by omega) CHX.rfl (by rw [cv116]; exact UBP.nil) (by omega) rfl)
  show Tn _ _ 85 T σ118 [(0, .ref a), (1, .ref p1), (2, .int (iI z44)), (3, .int (iI i3117))] [] _
  refine tn_aload_n dX8_share_85 rfl 0 rfl ?_
  refine tn_aload_n dX8_share_86 rfl 1 rfl ?_
  have cv128 : σ118.2.1 (1000 + xh) = Rh := (CHX.r f124 (by first | (simp; done) | (simp only [List.mem_cons, List.not_mem_nil, or_false, not_or]; first | omega | ((repeat' apply And.intro) <;> first | assumption | (apply Ne.symm; assumption))))).trans ((CHX.r f111 (by first | (simp; done) | (simp only [List.mem_cons, List.not_mem_nil, or_false, not_or]; first | omega | ((repeat' apply And.intro) <;> first | assumption | (apply Ne.symm; assumption))))).trans ((CHX.r f86 (by first | (simp; done) | (simp only [List.mem_cons, List.not_mem_nil, or_false, not_or]; first | omega | ((repeat' apply And.intro) <;> first | assumption | (apply Ne.symm; assumption))))).trans ((CHX.r f69 (by first | (simp; done) | (simp only [List.mem_cons, List.not_mem_nil, or_false, not_or]; first | omega | ((repeat' apply And.intro) <;> first | assumption | (apply Ne.symm; assumption))))).trans ((CHX.r f54 (by first | (simp; done) | (simp only [List.mem_cons, List.not_mem_nil, or_false, not_or]; first | omega | ((repeat' apply And.intro) <;> first | assumption | (apply Ne.symm; assumption))))).trans (cv36)))))
  have cv129 : σ118.2.1 (1000 + xm_) = σ83.2.1 (1000 + xm_) := (CHX.r f124 (by first | (simp; done) | (simp only [List.mem_cons, List.not_mem_nil, or_false, not_or]; first | omega | ((repeat' apply And.intro) <;> first | assumption | (apply Ne.symm; assumption))))).trans ((CHX.r f111 (by first | (simp; done) | (simp only [List.mem_cons, List.not_mem_nil, or_false, not_or]; first | omega | ((repeat' apply And.intro) <;> first | assumption | (apply Ne.symm; assumption))))).trans (rfl))
  refine tn_callV (M := m_X8_share) (pc := 87) (ix := 86) (ci := 8) (M' := m_X8_renumber) (As := [.ref p1]) (rest := []) dX8_share_87 ok_X8_renumber im_X8_renumber se_X8_renumber ml8_86 np_X8_renumber rfl rfl ha rfl (Nat.le_of_ble_eq_true rfl) (Nat.le_of_ble_eq_true rfl) rfl (k_X8_renumber_x (d + 1) (T := T) (σ := σ118) (a := a) (p1 := p1) (x := x) (n := n) (W := cW σ118 x n) (Fq := Fq) (xh := xh) (Rh := Rh) (xm_ := xm_) (Rm := σ83.2.1 (1000 + xm_)) ha h_p1 t_p1 w121 (rc_F F122 (Or.inl (by decide)) (by decide) (rc_F F115 (Or.inl (by decide)) (by decide) (rc_F F90 (Or.inl (by decide)) (by decide) (rc_F F73 (Or.inl (by decide)) (by decide) (rc_F F58 (Or.inl (by decide)) (by decide) (rc_F F25 (Or.inl (by decide)) (by decide) (hx))))))) (rc_F F122 (Or.inl (by decide)) (by decide) (rc_F F115 (Or.inl (by decide)) (by decide) (rc_F F90 (Or.inl (by decide)) (by decide) (rc_F F73 (Or.inl (by decide)) (by decide) (rc_F F58 (Or.inl (by decide)) (by decide) (rc_F F25 (Or.inl (by decide)) (by decide) (hn))))))) rfl (rc_F F122 (Or.inl (by decide)) (by decide) (rc_F F115 (Or.inl (by decide)) (by decide) (rc_F F90 (Or.inl (by decide)) (by decide) (rc_F F73 (Or.inl (by decide)) (by decide) (rc_F F58 (Or.inl (by decide)) (by decide) (rc_F F25 (Or.inl (by decide)) (by decide) (hFq))))))) (rc_F F122 (Or.inl (by decide)) (by decide) (rc_F F115 (Or.inl (by decide)) (by decide) (rc_F F90 (Or.inl (by decide)) (by decide) (rc_F F73 (Or.inl (by decide)) (by decide) (rc_F F58 (Or.inl (by decide)) (by decide) (rc_F F25 (Or.inl (by decide)) (by decide) (hxh))))))) cv128 (rc_F F122 (Or.inl (by decide)) (by decide) (rc_F F115 (Or.inl (by decide)) (by decide) (rc_F F90 (Or.inl (by decide)) (by decide) (rc_F F73 (Or.inl (by decide)) (by decide) (rc_F F58 (Or.inl (by decide)) (by decide) (rc_F F25 (Or.inl (by decide)) (by decide) (hxm_))))))) cv129 (by omega) ⟨dq_x_xh, dq_x_xm_, dq_xh_xm_⟩ (f127.ok hwok)) (fun r130 T132 σ131 gt133 hp => ?_)
  obtain ⟨rfl, rfl, w138, F139, f134, f135, f136⟩ := hp
  clear gt133
  show Tn _ _ 90 T σ131 [(0, .ref a), (1, .ref p1), (2, .int (iI z44)), (3, .int (iI i3117))] [] _
  have hS9 := SHC.mk (W3 := cW σ131 x n) (R2 := σ131.2.1 (1000 + xh)) h6n (by omega) hwok hgn hna hpn hrn12 hm9 f22 f55 f70 f87 f112 f127 (fun k z => cw_z z) f135 f136
  refine tn_aload_n dX8_share_90 rfl 1 rfl ?_
  have cv140 : σ131.2.1 (1000 + xn) = Rn := (CHX.r f134 (by first | (simp; done) | (simp only [List.mem_cons, List.not_mem_nil, or_false, not_or]; first | omega | ((repeat' apply And.intro) <;> first | assumption | (apply Ne.symm; assumption))))).trans ((CHX.r f124 (by first | (simp; done) | (simp only [List.mem_cons, List.not_mem_nil, or_false, not_or]; first | omega | ((repeat' apply And.intro) <;> first | assumption | (apply Ne.symm; assumption))))).trans ((CHX.r f111 (by first | (simp; done) | (simp only [List.mem_cons, List.not_mem_nil, or_false, not_or]; first | omega | ((repeat' apply And.intro) <;> first | assumption | (apply Ne.symm; assumption))))).trans ((CHX.r f86 (by first | (simp; done) | (simp only [List.mem_cons, List.not_mem_nil, or_false, not_or]; first | omega | ((repeat' apply And.intro) <;> first | assumption | (apply Ne.symm; assumption))))).trans ((CHX.r f69 (by first | (simp; done) | (simp only [List.mem_cons, List.not_mem_nil, or_false, not_or]; first | omega | ((repeat' apply And.intro) <;> first | assumption | (apply Ne.symm; assumption))))).trans ((CHX.r f54 (by first | (simp; done) | (simp only [List.mem_cons, List.not_mem_nil, or_false, not_or]; first | omega | ((repeat' apply And.intro) <;> first | assumption | (apply Ne.symm; assumption))))).trans (cv31))))))
  refine tn_callV (M := m_X8_share) (pc := 91) (ix := 44) (ci := 1) (M' := m_X1_registers) (As := []) (rest := []) dX8_share_91 ok_X1_registers im_X1_registers se_X1_registers ml8_44 np_X1_registers rfl rfl h_p1 rfl (Nat.le_of_ble_eq_true rfl) (Nat.le_of_ble_eq_true rfl) rfl (k_X1_registers_x (d) (T := T) (σ := σ131) (a := p1) (x := x) (n := n) (W := cW σ131 x n) (Fq := Fq) (xn := xn) (Rn := Rn) (xh := xh) (Rh := σ131.2.1 (1000 + xh)) h_p1 w138 (rc_F F139 (Or.inl (by decide)) (by decide) (rc_F F122 (Or.inl (by decide)) (by decide) (rc_F F115 (Or.inl (by decide)) (by decide) (rc_F F90 (Or.inl (by decide)) (by decide) (rc_F F73 (Or.inl (by decide)) (by decide) (rc_F F58 (Or.inl (by decide)) (by decide) (rc_F F25 (Or.inl (by decide)) (by decide) (hx)))))))) (rc_F F139 (Or.inl (by decide)) (by decide) (rc_F F122 (Or.inl (by decide)) (by decide) (rc_F F115 (Or.inl (by decide)) (by decide) (rc_F F90 (Or.inl (by decide)) (by decide) (rc_F F73 (Or.inl (by decide)) (by decide) (rc_F F58 (Or.inl (by decide)) (by decide) (rc_F F25 (Or.inl (by decide)) (by decide) (hn)))))))) rfl (rc_F F139 (Or.inl (by decide)) (by decide) (rc_F F122 (Or.inl (by decide)) (by decide) (rc_F F115 (Or.inl (by decide)) (by decide) (rc_F F90 (Or.inl (by decide)) (by decide) (rc_F F73 (Or.inl (by decide)) (by decide) (rc_F F58 (Or.inl (by decide)) (by decide) (rc_F F25 (Or.inl (by decide)) (by decide) (hFq)))))))) (rc_F F139 (Or.inl (by decide)) (by decide) (rc_F F122 (Or.inl (by decide)) (by decide) (rc_F F115 (Or.inl (by decide)) (by decide) (rc_F F90 (Or.inl (by decide)) (by decide) (rc_F F73 (Or.inl (by decide)) (by decide) (rc_F F58 (Or.inl (by decide)) (by decide) (rc_F F25 (Or.inl (by decide)) (by decide) (hxn)))))))) cv140 (rc_F F139 (Or.inl (by decide)) (by decide) (rc_F F122 (Or.inl (by decide)) (by decide) (rc_F F115 (Or.inl (by decide)) (by decide) (rc_F F90 (Or.inl (by decide)) (by decide) (rc_F F73 (Or.inl (by decide)) (by decide) (rc_F F58 (Or.inl (by decide)) (by decide) (rc_F F25 (Or.inl (by decide)) (by decide) (hxh)))))))) rfl (by omega) hS9.1 hS9.2.1) (fun r141 T143 σ142 gt144 hp => ?_)
  obtain ⟨v147, rfl, rfl, rfl, f145, f146⟩ := hp
  clear gt144
  show Tn _ _ 94 T σ131 [(0, .ref a), (1, .ref p1), (2, .int (iI z44)), (3, .int (iI i3117))] [.int (iI v147)] _
  exact tn_iret rfl dX8_share_94 ⟨_, rfl, rfl, w138, (((((((FrC.rfl.trans (FrC.sub F25 (by decide))).trans (FrC.sub F58 (by decide))).trans (FrC.sub F73 (by decide))).trans (FrC.sub F90 (by decide))).trans (FrC.sub F115 (by decide))).trans (FrC.sub F122 (by decide))).trans (FrC.sub F139 (by decide))), by omega, (((((((CHX.rfl.trans (CHX.sub f21 (by simp) (by simp) (by simp))).trans (CHX.sub f54 (by simp) (by simp) (by simp))).trans (CHX.sub f69 (by simp) (by simp) (by simp))).trans (CHX.sub f86 (by simp) (by simp) (by simp))).trans (CHX.sub f111 (by simp) (by simp) (by simp))).trans (CHX.sub f124 (by simp) (by simp) (by simp))).trans (CHX.sub f134 (by simp) (by simp) (by simp))), (hS9.2.2 _ f146), hS9.1, hS9.2.1⟩
end
section
def DS (l : List Nat) : Prop := ∀ (i j : Nat) (a b : Nat), l[i]? = some a → l[j]? = some b → i ≠ j → a ≠ b
theorem DS.ne {l : List Nat} (h : DS l) {i j a b : Nat} (hi : l[i]? = some a) (hj : l[j]? = some b) (hij : i ≠ j) : a ≠ b := h i j a b hi hj hij
theorem DS.sub {l l2 : List Nat} (h : DS l) (ix : List Nat) (hd : ∀ i : Nat, i < ix.length → ∀ j : Nat, j < ix.length → ix[i]? = ix[j]? → i = j) (he : ix.map (fun i => l[i]?) = l2.map some) : DS l2 := fun i j a b hi hj hij => by
  have ge : ∀ (i a : Nat), l2[i]? = some a → ∃ p, ix[i]? = some p ∧ l[p]? = some a := fun i a e => by
    have z : (l2.map some)[i]? = some (some a) := by rw [List.getElem?_map, e]; rfl
    rw [← he, List.getElem?_map] at z
    cases q : ix[i]? with
    | none => rw [q] at z; exact absurd z (by simp)
    | some p => rw [q] at z; exact ⟨p, rfl, by simpa using z⟩
  obtain ⟨p, p1, p2⟩ := ge i a hi
  obtain ⟨q, q1, q2⟩ := ge j b hj
  exact h p q a b p2 q2 (fun e => hij (hd i (List.getElem?_eq_some_iff.mp p1).1 j (List.getElem?_eq_some_iff.mp q1).1 (by rw [p1, q1, e])))
def CHN (T : CT) (ks : List (Nat × Nat)) (rs ls : List Nat) (σ τ : MS) : Prop := (∀ (j : Nat) (b : Int), j < 1000 → (∀ p, p ∈ ks → p.1 = j → (p.2 : Int) ≠ b) → τ.2.1 j b = σ.2.1 j b) ∧ (∀ x, x ∉ rs → ((T x).1 ≠ 0 ∧ (T x).1 < 80) → τ.2.1 (1000 + x) = σ.2.1 (1000 + x)) ∧ ∀ x, x ∉ ls → τ.2.2 x = σ.2.2 x
section CHNS
variable {T T2 : CT} {ks ks2 : List (Nat × Nat)} {rs ls rs2 ls2 : List Nat} {σ τ υ : MS} {x n a : Nat} {z v : Int}
theorem CHN.rfl : CHN T ks rs ls σ σ := ⟨fun _ _ _ _ => Eq.refl _, fun _ _ _ => Eq.refl _, fun _ _ => Eq.refl _⟩
theorem CHN.trans (h : CHN T ks rs ls σ τ) (g : CHN T ks rs ls τ υ) : CHN T ks rs ls σ υ := ⟨fun j b a c => (g.1 j b a c).trans (h.1 j b a c), fun x a c => (g.2.1 x a c).trans (h.2.1 x a c), fun x a => (g.2.2 x a).trans (h.2.2 x a)⟩
theorem CHN.sub (h : CHN T ks rs ls σ τ) (a : ∀ p, p ∈ ks → p ∈ ks2) (b : ∀ x, x ∈ rs → x ∈ rs2) (c : ∀ x, x ∈ ls → x ∈ ls2) : CHN T ks2 rs2 ls2 σ τ := ⟨fun j y i k => h.1 j y i (fun p q => k p (a p q)), fun x q w => h.2.1 x (fun y => q (b x y)) w, fun x q => h.2.2 x (fun w => q (c x w))⟩
theorem CHN.of (h : CHX ks rs ls σ τ) (a : ∀ p, p ∈ ks → p ∈ ks2) (b : ∀ x, x ∈ rs → x ∈ rs2 ∨ (T x).1 = 0) (c : ∀ x, x ∈ ls → x ∈ ls2) : CHN T ks2 rs2 ls2 σ τ := ⟨fun j y i k => h.1 j y i (fun p q => k p (a p q)), fun x q w => h.2.1 x (fun y => (b x y).elim q w.1), fun x q => h.2.2 x (fun w => q (c x w))⟩
theorem CHN.fld (h : CHN T ks rs ls σ τ) (m : (n, a) ∈ ks) (hn : n < 1000) : CHN T ks rs ls σ (sA n a v τ) := h.trans (CHN.of (CHX.fld (CHX.rfl (ks := ks) (rs := []) (ls := [])) m hn) (fun _ q => q) (fun _ q => absurd q (by simp)) (fun _ q => absurd q (by simp)))
theorem CHN.arr (h : CHN T ks rs ls σ τ) (m : x ∈ rs ∨ (T x).1 = 0) : CHN T ks rs ls σ (sA (1000 + x) z v τ) := h.trans (CHN.of (CHX.arr (CHX.rfl (ks := []) (rs := [x]) (ls := [])) (by simp)) (fun _ q => absurd q (by simp)) (fun y q => by rw [List.mem_singleton.mp q]; exact m) (fun _ q => absurd q (by simp)))
theorem CHN.row {f : Int → Int} (h : CHN T ks rs ls σ τ) (m : x ∈ rs ∨ (T x).1 = 0) : CHN T ks rs ls σ (rowS (1000 + x) f τ) := h.trans (CHN.of (CHX.row (CHX.rfl (ks := []) (rs := [x]) (ls := [])) (by simp)) (fun _ q => absurd q (by simp)) (fun y q => by rw [List.mem_singleton.mp q]; exact m) (fun _ q => absurd q (by simp)))
theorem CHN.r (h : CHN T ks rs ls σ τ) (hT : (T x).1 ≠ 0 ∧ (T x).1 < 80) (hx : x ∉ rs) : τ.2.1 (1000 + x) = σ.2.1 (1000 + x) := h.2.1 x hx hT
theorem CHN.l (h : CHN T ks rs ls σ τ) (hx : x ∉ ls) : τ.2.2 x = σ.2.2 x := h.2.2 x hx
theorem CHN.f (h : CHN T ks rs ls σ τ) (hn : n < 1000) (hk : (n, a) ∉ ks) : τ.2.1 n a = σ.2.1 n a := CHX.f (rs := []) (ls := []) (τ := (τ.1, fun j b => if j < 1000 then τ.2.1 j b else σ.2.1 j b, σ.2.2)) (σ := σ) ⟨fun j b i k => by show (if j < 1000 then τ.2.1 j b else σ.2.1 j b) = _; rw [if_pos i]; exact h.1 j b i k, fun x _ => by funext b; show (if 1000 + x < 1000 then _ else _) = _; rw [if_neg (by omega)], fun _ _ => Eq.refl _⟩ hn hk |>.symm ▸ (by show τ.2.1 n a = (if n < 1000 then τ.2.1 n a else σ.2.1 n a); rw [if_pos hn])
end CHNS
theorem cN_n {P : Int → Prop} {k : Int} (h : 0 ≤ k) (q : ¬ P k) : cN P 0 (k + 1).toNat = cN P 0 k.toNat := by rw [cN_1s h, dI_n q]; omega
theorem cN_y {P : Int → Prop} {k : Int} (h : 0 ≤ k) (q : P k) : cN P 0 (k + 1).toNat = cN P 0 k.toNat + 1 := by rw [cN_1s h, dI_y q]
theorem cN_z {P : Int → Prop} : cN P 0 (0 : Int).toNat = 0 := rfl
theorem cN_b {P : Int → Prop} {k : Int} (h : 0 ≤ k) : 0 ≤ cN P 0 k.toNat ∧ cN P 0 k.toNat ≤ k := ⟨cN_0.1, by have := cN_le (P := P) (a := 0) (n := k.toNat); omega⟩
def nnC (La : Int → Int64) (Rh : Int → Int) (P g : Int) : Prop := bT La 0 g ∧ ¬ pmC Rh P g
def gOK (i : It) : Prop := iOK i ∧ (i 0 = 8 ∨ i 0 = 9 ∨ i 0 = 13 → 0 ≤ i 1 ∧ i 1 ≤ 5000) ∧ (i 0 = 11 ∨ i 0 = 12 → 0 ≤ i 2 ∧ i 2 ≤ 12) ∧ (i 0 = 14 ∨ i 0 = 15 → 0 ≤ i 1 ∧ i 1 ≤ 12)
def GOK (W : Int → It) (n : Int) : Prop := ∀ k, 0 ≤ k → k < n → gOK (W k)
theorem GOK.w {W : Int → It} {n : Int} (h : GOK W n) : WOK W n := fun k a b => (h k a b).1
theorem it_s {W0 W1 W2 : Int → It} {k c y : Int} {i : It} (h1 : W1 = uZ W0 k i) (h2 : W2 = uZ W1 k (uZ (W1 k) c y)) : W2 = uZ W0 k (uZ i c y) := by
  subst h1
  rw [uZ_eq, uZ_uZ] at h2
  exact h2
theorem it_3 {W0 W1 W2 : Int → It} {k c1 c2 c3 y1 y2 y3 : Int} {i : It} (h1 : W1 = uZ W0 k i) (h2 : W2 = uZ W1 k (uZ (uZ (uZ (W1 k) c1 y1) c2 y2) c3 y3)) : W2 = uZ W0 k (uZ (uZ (uZ i c1 y1) c2 y2) c3 y3) := by
  subst h1
  rw [uZ_eq, uZ_uZ] at h2
  exact h2
def rgB (i : It) (c : Int) : Prop := i c = 2 ∨ (c = 3 ∧ i 0 = 12 ∧ i 11 = 2)
noncomputable def aiO (base : Int) (i : It) (c : Int) : Int := if c = 3 ∨ c = 5 ∨ c = 7 ∨ c = 9 then i c else dI (rgB i (c - 1)) (i c + base) (i c)
noncomputable def aiP (base : Int) (i row : It) (m : Int) : It := fun c => if 3 ≤ c ∧ c < 3 + 2 * m then aiO base i c else row c
def AIP (W1 V : Int → It) (base : Int) (i : It) (k c : Int) : Prop := ∃ m : Int, c = 3 + 2 * m ∧ (0 ≤ m ∧ m ≤ 4) ∧ V = uZ W1 k (aiP base i (W1 k) m)
section AIS
variable {W1 V V1 V2 : Int → It} {base k c y z : Int} {i : It}
theorem AIP.nil : AIP W1 W1 base i k 3 := ⟨0, by decide, by decide, uZ_self (by funext c; unfold aiP; rw [if_neg (by omega)])⟩
theorem AIP.num (h : AIP W1 V base i k c) : c = 3 ∨ c = 5 ∨ c = 7 ∨ c = 9 ∨ c = 11 := by
  obtain ⟨m, a, b, -⟩ := h
  omega
theorem AIP.step (h : AIP W1 V base i k c) (hc : c < 11) (e1 : V1 = uZ V k (uZ (V k) c y)) (e2 : V2 = uZ V1 k (uZ (V1 k) (c + 1) z)) (hy : y = i c) (hz : z = dI (rgB i c) (i (c + 1) + base) (i (c + 1))) : AIP W1 V2 base i k (c + 2) := by
  obtain ⟨m, a, b, e⟩ := h
  refine ⟨m + 1, by omega, by omega, ?_⟩
  have f := it_s (it_s e e1) e2
  rw [f]
  congr 1
  funext q
  by_cases q1 : q = c + 1
  · rw [q1, uZ_eq, hz]
    unfold aiP aiO
    rw [if_pos (by omega), if_neg (by omega), show c + 1 - 1 = c by omega]
  · rw [uZ_ne q1]
    by_cases q2 : q = c
    · rw [q2, uZ_eq, hy]
      unfold aiP aiO
      rw [if_pos (by omega), if_pos (by omega)]
    · rw [uZ_ne q2]
      unfold aiP
      by_cases q3 : 3 ≤ q ∧ q < 3 + 2 * m
      · rw [if_pos q3, if_pos (by omega)]
      · rw [if_neg q3, if_neg (by omega)]
end AIS
def shF (fb base lb k : Int) : Int := if k ≤ 5 then base else if k = 8 ∨ k = 9 ∨ k = 13 then lb else if k = 14 ∨ k = 15 then fb else 0
noncomputable def amI (fb base lb : Int) (i row : It) : It := uZ (uZ (uZ (uZ (aiP base i row 4) 11 (i 11)) 0 (i 0)) 1 (i 1 + shF fb base lb (i 0))) 2 (i 2 + (if i 0 = 11 ∨ i 0 = 12 then fb else 0))
theorem am_mk {W0 V V1 V2 : Int → It} {fb base lb k c a b x y : Int} {i : It} (h : AIP W0 V base i k c) (hc : 11 ≤ c) (e1 : V1 = uZ V k (uZ (V k) 11 a)) (e2 : V2 = uZ V1 k (uZ (uZ (uZ (V1 k) 0 b) 1 x) 2 y)) (ha : a = i 11) (hb : b = i 0) (hx : x = i 1 + shF fb base lb (i 0)) (hy : y = i 2 + (if i 0 = 11 ∨ i 0 = 12 then fb else 0)) : V2 = uZ W0 k (amI fb base lb i (W0 k)) := by
  obtain ⟨m, p, q, e⟩ := h
  have m4 : m = 4 := by omega
  subst m4
  have f := it_3 (it_s e e1) e2
  rw [f, ha, hb, hx, hy]
  rfl
theorem am_nrm {fb base lb : Int} {i : It} (h : iOK i) (hz : ∀ c, ¬ (0 ≤ c ∧ c ≤ 12) → i c = 0) (h7 : i 0 ≠ 7 ∧ i 0 ≠ 10) : nrm (amI fb base lb i zI) = mlI fb base lb (nrm i) := by
  have a0 : amI fb base lb i zI 0 = i 0 := by unfold amI; rw [uZ_ne (by decide), uZ_ne (by decide), uZ_eq]
  have a11 : amI fb base lb i zI 11 = i 11 := by unfold amI; rw [uZ_ne (by decide), uZ_ne (by decide), uZ_ne (by decide), uZ_eq]
  have n0 : nrm i 0 = i 0 := nrm_ne (by decide) (by decide)
  have n1 : nrm i 1 = i 1 := nrm_ne (by decide) (by decide)
  have n2 : nrm i 2 = i 2 := nrm_ne (by decide) (by decide)
  have k0 := h.1
  -- what mlI says, cell by cell
  have ml : ∀ c, mlI fb base lb (nrm i) c = if c = 1 then i 1 + shF fb base lb (i 0) else if c = 2 then i 2 + (if i 0 = 11 ∨ i 0 = 12 then fb else 0) else shO base (nrm i) c := fun c => by
    have s1 : shO base (nrm i) 1 = i 1 := by unfold shO; rw [if_neg (by omega)]; exact n1
    have s2 : shO base (nrm i) 2 = i 2 := by unfold shO; rw [if_neg (by omega)]; exact n2
    unfold mlI
    rw [n0, n1, n2]
    unfold shF
    by_cases x1 : i 0 = 8 ∨ i 0 = 9 ∨ i 0 = 13
    · rw [if_pos x1, if_neg (show ¬ i 0 ≤ 5 by omega), if_pos x1, if_neg (show ¬ (i 0 = 11 ∨ i 0 = 12) by omega)]
      by_cases c1 : c = 1
      · rw [c1, uZ_eq, if_pos rfl]
      · rw [uZ_ne c1, if_neg c1]
        by_cases c2 : c = 2
        · rw [c2, if_pos rfl, s2]; omega
        · rw [if_neg c2]
    · rw [if_neg x1]
      by_cases x2 : i 0 = 11 ∨ i 0 = 12
      · rw [if_pos x2, if_neg (show ¬ i 0 ≤ 5 by omega), if_neg x1, if_neg (show ¬ (i 0 = 14 ∨ i 0 = 15) by omega), if_pos x2]
        by_cases c2 : c = 2
        · rw [c2, uZ_eq, if_neg (by decide), if_pos rfl]
        · rw [uZ_ne c2, if_neg c2]
          by_cases c1 : c = 1
          · rw [c1, if_pos rfl, s1]; omega
          · rw [if_neg c1]
      · rw [if_neg x2, if_neg x2]
        by_cases x3 : i 0 = 14 ∨ i 0 = 15
        · rw [if_pos x3, if_neg (show ¬ i 0 ≤ 5 by omega), if_neg x1, if_pos x3]
          by_cases c1 : c = 1
          · rw [c1, uZ_eq, if_pos rfl]
          · rw [uZ_ne c1, if_neg c1]
            by_cases c2 : c = 2
            · rw [c2, if_pos rfl, s2]; omega
            · rw [if_neg c2]
        · rw [if_neg x3]
          by_cases x4 : i 0 = 6
          · rw [if_pos x4, if_neg (show ¬ i 0 ≤ 5 by omega), if_neg x1, if_neg x3]
            by_cases c1 : c = 1
            · rw [c1, if_pos rfl, s1]; omega
            · rw [if_neg c1]
              by_cases c2 : c = 2
              · rw [c2, if_pos rfl, s2]; omega
              · rw [if_neg c2]
          · rw [if_neg x4, if_pos (show i 0 ≤ 5 by omega)]
            by_cases c1 : c = 1
            · rw [c1, uZ_eq, if_pos rfl]
            · rw [uZ_ne c1, if_neg c1]
              by_cases c2 : c = 2
              · rw [c2, if_pos rfl, s2]; omega
              · rw [if_neg c2]
  funext c
  rw [ml c]
  by_cases c12 : c = 12
  · subst c12
    rw [nrm_12, if_neg (by decide), if_neg (by decide)]
    unfold shO
    rw [if_neg (by omega), nrm_12]
  by_cases c1 : c = 1
  · subst c1
    rw [if_pos rfl, nrm_ne (by decide) (by decide)]
    unfold amI
    rw [uZ_ne (by decide), uZ_eq]
  rw [if_neg c1]
  by_cases c2 : c = 2
  · subst c2
    rw [if_pos rfl, nrm_ne (by decide) (by decide)]
    unfold amI
    rw [uZ_eq]
  rw [if_neg c2]
  by_cases c3 : c = 3
  · subst c3
    have e : shO base (nrm i) 3 = nrm i 3 := by unfold shO; rw [if_neg (by omega)]
    have a3 : amI fb base lb i zI 3 = i 3 := by
      unfold amI
      rw [uZ_ne (by decide), uZ_ne (by decide), uZ_ne (by decide), uZ_ne (by decide)]
      unfold aiP aiO
      rw [if_pos (by decide), if_pos (by decide)]
    rw [e]
    unfold nrm
    rw [a0, a11, a3]
  rw [nrm_ne c3 c12]
  have am : amI fb base lb i zI c = if c = 0 then i 0 else if c = 11 then i 11 else if 3 ≤ c ∧ c < 11 then aiO base i c else 0 := by
    by_cases c0 : c = 0
    · rw [c0, a0, if_pos rfl]
    · rw [if_neg c0]
      by_cases c11 : c = 11
      · rw [c11, a11, if_pos rfl]
      · rw [if_neg c11]
        unfold amI
        rw [uZ_ne c2, uZ_ne c1, uZ_ne c0, uZ_ne c11]
        unfold aiP
        by_cases q : 3 ≤ c ∧ c < 11
        · rw [if_pos (by omega), if_pos q]
        · rw [if_neg (by omega), if_neg q]; rfl
  rw [am]
  by_cases ev : c = 4 ∨ c = 6 ∨ c = 8 ∨ c = 10
  · rw [if_neg (by omega), if_neg (by omega), if_pos (by omega)]
    unfold aiO shO
    rw [if_neg (by omega), nrm_ne (c := c) c3 c12]
    have e : rgB i (c - 1) ↔ nrm i (c - 1) = 2 := by
      unfold rgB
      by_cases c4 : c = 4
      · subst c4
        rw [show (4 : Int) - 1 = 3 by decide]
        by_cases b : i 0 = 12 ∧ (i 11 = 1 ∨ i 11 = 2)
        · have z := h.2.2.2.2 b.1 b.2
          rw [nrm_b b.1 b.2]
          exact ⟨fun y => y.elim (fun y => by omega) (fun y => y.2.2), fun y => Or.inr ⟨rfl, b.1, y⟩⟩
        · have e3 : nrm i 3 = i 3 := by
            unfold nrm
            rw [if_neg (fun q => b q.2), if_neg (by decide)]
          rw [e3]
          exact ⟨fun y => y.elim id (fun y => absurd ⟨y.2.1, Or.inr y.2.2⟩ b), Or.inl⟩
      · rw [nrm_ne (c := c - 1) (by omega) (by omega)]
        exact ⟨fun y => y.elim id (fun y => by omega), Or.inl⟩
    by_cases r : rgB i (c - 1)
    · rw [dI_y r, if_pos ⟨ev, e.mp r⟩]
    · rw [dI_n r, if_neg (fun z => r (e.mpr z.2))]
  · have e : shO base (nrm i) c = i c := by
      unfold shO
      rw [if_neg (fun z => ev z.1), nrm_ne c3 c12]
    rw [e]
    by_cases c0 : c = 0
    · rw [if_pos c0, c0]
    · rw [if_neg c0]
      by_cases c11 : c = 11
      · rw [if_pos c11, c11]
      · rw [if_neg c11]
        by_cases q : 3 ≤ c ∧ c < 11
        · rw [if_pos q]
          unfold aiO
          rw [if_pos (by omega)]
        · rw [if_neg q, hz c (by omega)]
end
section
set_option maxHeartbeats 1000000 in
set_option maxRecDepth 20000 in
theorem l_X1_acts_x_4 (d : Nat) {T : CT} {σ : MS} {a : Nat} {x : Nat} {n : Int} {W : Int → It} {post : Option Value → CT → MS → Prop} (h_a : OB T a 1) (hw : WT T σ) (hn0 : 0 ≤ n) (hx : σ.2.1 5 a = (x : Int)) (hn : σ.2.1 6 a = n) (hW : cW σ x n = W) (hN : n ≤ 200) (hwok : WOK W n) (hx_33 : ∀ (i1 : Int) (i2 : Int) , (0 ≤ i1 ∧ i1 ≤ 200) → (0 ≤ i2 ∧ i2 ≤ 200) → (True) → (i2 ≤ n ∧ 0 ≤ i1 ∧ i1 ≤ i2) → (i1 = cN (fun j => W j 0 ≤ 10) 0 n.toNat) → Tn (d + 2) m_X1_acts 33 T σ [(0, .ref a), (1, .int (iI i1)), (2, .int (iI i2))] [] post) : ∀ (nq9 : Nat) (i1 : Int) (i2 : Int) , (0 ≤ i1 ∧ i1 ≤ 200) → (0 ≤ i2 ∧ i2 ≤ 200) → (i1 = cN (fun j => W j 0 ≤ 10) 0 i2.toNat) → (i2 ≤ n ∧ 0 ≤ i1 ∧ i1 ≤ i2) → (2147483700 - i2).toNat = nq9 → Tn (d + 2) m_X1_acts 4 T σ [(0, .ref a), (1, .int (iI i1)), (2, .int (iI i2))] [] post := by
  intro nq9
  induction nq9 using Nat.strongRecOn with
  | _ nq9 ih =>
    intro i1 i2 r_i1 r_i2 hA h2 hm
    refine tn_iload_n dX1_acts_4 rfl 2 rfl ?_
    refine tn_aload_n dX1_acts_5 rfl 0 rfl ?_
    refine tn_getI (ci := 1) (i := 1) (n := 6) (t := σ.2.1 6 a) dX1_acts_6 rfl lay_1 (by decide) fl1_33 h_a rfl rfl (rfl) ?_
    have g1 : ((0 : Int) ≤ σ.2.1 6 a ∧ σ.2.1 6 a ≤ 5000) ∧ ((T a).1 = 50 → σ.2.1 6 a ≤ 200) := wf_6 hw h_a
    have g1x := g1.2
    replace g1 := g1.1
    clear g1x
    refine tn_icmp_ge (tgt := 33) dX1_acts_9 (by decide) ⟨by omega, by omega⟩ ⟨by omega, by omega⟩ (fun h2 => ?_) (fun h2 => ?_)
    · exact tn_sub [0, 1, 2] rfl (hx_33 (i1) (i2) (by omega) (by omega) True.intro (by omega) (by rw [show n = i2 by omega]; exact hA))
    · refine tn_aload_n dX1_acts_12 rfl 0 rfl ?_
      refine tn_iload_n dX1_acts_13 rfl 2 rfl ?_
      refine tn_iconst dX1_acts_14 ?_
      obtain ⟨hl6, hk5a, hk5b⟩ := cel_of (wf_5 hw h_a) hx
      have hk5i : IA T x := by unfold IA; omega
      have hk5c : CELL T a x := ⟨hk5a, hk5b⟩
      clear hk5a hk5b
      refine tn_callV (M := m_X1_acts) (pc := 15) (ix := 86) (ci := 1) (M' := m_X1_get) (As := [.int (iI i2), .int (iI 0)]) (rest := []) dX1_acts_15 ok_X1_get im_X1_get se_X1_get ml1_86 np_X1_get rfl rfl h_a rfl (Nat.le_of_ble_eq_true rfl) (Nat.le_of_ble_eq_true rfl) rfl (k_X1_get_x (d) (T := T) (σ := σ) (a := a) (k := i2) (c := 0) (x := x) (n := n) (W := W) h_a (by omega) (by decide) hw (hx) (hn) hW (by omega) (by omega)) (fun r7 T9 σ8 gt10 hp => ?_)
      obtain ⟨v13, rfl, rfl, rfl, f11, f12⟩ := hp
      clear gt10
      show Tn _ _ 18 T σ [(0, .ref a), (1, .int (iI i1)), (2, .int (iI i2))] [.int (iI v13)] _
      refine tn_callSN (M := m_X1_acts) (pc := 18) (ix := 107) (M' := m_X11_isAct) (As := [.int (iI v13)]) (rest := []) dX1_acts_18 ok_X11_isAct stt_X11_isAct nl1_107 np_X11_isAct rfl (Nat.le_of_ble_eq_true rfl) (Nat.le_of_ble_eq_true rfl) rfl (k_X11_isAct_x (d) (T := T) (σ := σ) (k := v13) (by omega) hw ) (fun r14 T16 σ15 gt17 hp => ?_)
      obtain ⟨v20, rfl, rfl, rfl, f18, f19⟩ := hp
      clear gt17
      show Tn _ _ 21 T σ [(0, .ref a), (1, .int (iI i1)), (2, .int (iI i2))] [.int (iI v20)] _
      refine tn_if_eq (tgt := 27) dX1_acts_21 (by decide) ⟨by omega, by omega⟩ (fun h21 => ?_) (fun h21 => ?_)
      · refine tn_iinc (q0 := 2) (L' := [(2, .int (iI (i2 + 1))), (0, .ref a), (1, .int (iI i1))]) dX1_acts_27 rfl (by decide) rfl ?_
        refine tn_goto (tgt := 4) dX1_acts_30 (by decide) ?_
        exact tn_sub [1, 2, 0] rfl (ih _ (by omega) (i1) (i2 + 1) (by omega) (by omega) (by have z := hwok i2 (by omega) (by omega); have z0 := z.1; have e1 : ¬ W i2 0 ≤ 10 := (by omega); rw [cN_n (P := fun j => W j 0 ≤ 10) (k := i2) (by omega) e1, ← hA]) (by omega) rfl)
      · refine tn_iinc (q0 := 1) (L' := [(1, .int (iI (i1 + 1))), (0, .ref a), (2, .int (iI i2))]) dX1_acts_24 rfl (by decide) rfl ?_
        refine tn_iinc (q0 := 2) (L' := [(2, .int (iI (i2 + 1))), (1, .int (iI (i1 + 1))), (0, .ref a)]) dX1_acts_27 rfl (by decide) rfl ?_
        refine tn_goto (tgt := 4) dX1_acts_30 (by decide) ?_
        exact tn_sub [2, 1, 0] rfl (ih _ (by omega) (i1 + 1) (i2 + 1) (by omega) (by omega) (by have z := hwok i2 (by omega) (by omega); have z0 := z.1; have e1 : W i2 0 ≤ 10 := (by omega); rw [cN_y (P := fun j => W j 0 ≤ 10) (k := i2) (by omega) e1, ← hA]) (by omega) rfl)
set_option maxHeartbeats 1000000 in
set_option maxRecDepth 20000 in
theorem k_X1_acts_x (d : Nat) {T : CT} {σ : MS} {a : Nat} {x : Nat} {n : Int} {W : Int → It} (ha : OB T a 1) (hw : WT T σ) (hx : σ.2.1 5 a = (x : Int)) (hn : σ.2.1 6 a = n) (hW : cW σ x n = W) (hN : n ≤ 200) (hwok : WOK W n) : Tn (d + 2) m_X1_acts 0 T σ [(0, .ref a)] [] (fun ro T2 σ2 => ∃ v : Int, ro = some (.int (iI v)) ∧ T = T2 ∧ σ = σ2 ∧ (0 ≤ v ∧ v ≤ 200) ∧ (v = cN (fun j => W j 0 ≤ 10) 0 n.toNat)) := by
  have h6 := wf_6 hw ha
  refine tn_iconst dX1_acts_0 ?_
  refine tn_istore_n (L' := [(1, .int (iI 0)), (0, .ref a)]) dX1_acts_1 rfl (by decide) rfl ?_
  refine tn_iconst dX1_acts_2 ?_
  refine tn_istore_n (L' := [(2, .int (iI 0)), (1, .int (iI 0)), (0, .ref a)]) dX1_acts_3 rfl (by decide) rfl ?_
  refine tn_sub [2, 1, 0] rfl (l_X1_acts_x_4 (d) (T := T) (σ := σ) (a := a) (x := x) (n := n) (W := (W)) ha hw (by omega) (hx) (hn) hW hN hwok (fun i11 i22 r8 r9 f10 f11 f12 => ?_) _ (0) (0) (by omega) (by omega) cN_z.symm (by omega) rfl)
  show Tn _ _ 33 T σ [(0, .ref a), (1, .int (iI i11)), (2, .int (iI i22))] [] _
  refine tn_iload_n dX1_acts_33 rfl 1 rfl ?_
  exact tn_iret rfl dX1_acts_34 ⟨_, rfl, rfl, rfl, by omega, f12⟩
end
