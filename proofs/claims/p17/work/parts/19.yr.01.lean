section
set_option maxHeartbeats 1000000 in
set_option maxRecDepth 20000 in
theorem l_X8_share_x_42 (d : Nat) {T : CT} {σ0 : MS} {a : Nat} {rx1 : Nat} {c2 : Int} {x : Nat} {n : Int} {W : Int → It} {Fq : Int} {xn : Nat} {Rn : Int → Int} {xh : Nat} {Rh : Int → Int} {P : Int} {fl : Nat} {xa : Nat} {xo : Nat} {xf : Nat} {xd : Nat} {xg : Nat} {xm_ : Nat} {xy : Nat} {Ly : Int → Int64} {xr : Nat} {Rr : Int → Int} {xz : Nat} {post : Option Value → CT → MS → Prop} (h_a : OB T a 8) (h_rx1 : OB T rx1 1) (t_rx1 : (T rx1).1 = 50) (r_c2 : 0 ≤ c2 ∧ c2 ≤ 192) (hw0 : WT T σ0) (hn0 : 0 ≤ n) (hq : 0 ≤ c2 ∧ c2 ≤ 192) (hx : σ0.2.1 5 rx1 = (x : Int)) (hn : σ0.2.1 6 rx1 = n) (hxy : σ0.2.1 77 a = (xy : Int)) (hLy : σ0.2.2 xy = Ly) (hxr : σ0.2.1 78 a = (xr : Int)) (hRr : σ0.2.1 (1000 + xr) = Rr) (hN : n ≤ 200) (dq_x_xr : NQ x xr) (hx_85 : ∀ (i3 : Int) (σ : MS) , (WT T σ) → (FrC T [] σ0 σ) → (0 ≤ i3 ∧ i3 ≤ 200) → (CHX [] [x] [] σ0 σ) → (True) → (True) → (UBP W (cW σ x n) n c2 Ly (trR n Rr) n) → Tn (d + 5) m_X8_share 85 T σ [(0, .ref a), (1, .ref rx1), (2, .int (iI c2)), (3, .int (iI i3))] [] post) : ∀ (nq9 : Nat) (i3 : Int) (σ : MS) , (WT T σ) → (FrC T [] σ0 σ) → (0 ≤ i3 ∧ i3 ≤ 200) → (CHX [] [x] [] σ0 σ) → (UBP W (cW σ x n) n c2 Ly (trR n Rr) i3) → (i3 ≤ n) → (2147483700 - i3).toNat = nq9 → Tn (d + 5) m_X8_share 42 T σ [(0, .ref a), (1, .ref rx1), (2, .int (iI c2)), (3, .int (iI i3))] [] post := by
  intro nq9
  induction nq9 using Nat.strongRecOn with
  | _ nq9 ih =>
    intro i3 σ hw hF r_i3 hC hU_ h3 hm
    refine tn_iload_n dX8_share_42 rfl 3 rfl ?_
    refine tn_aload_n dX8_share_43 rfl 1 rfl ?_
    refine tn_getI (ci := 1) (i := 1) (n := 6) (t := σ0.2.1 6 rx1) dX8_share_44 rfl lay_1 (by decide) fl8_70 h_rx1 rfl rfl (rc_F hF (Or.inl (by decide)) (by decide) (rfl)) ?_
    have g1 : ((0 : Int) ≤ σ0.2.1 6 rx1 ∧ σ0.2.1 6 rx1 ≤ 5000) ∧ ((T rx1).1 = 50 → σ0.2.1 6 rx1 ≤ 200) := wf_6 hw0 h_rx1
    have g1x := g1.2
    replace g1 := g1.1
    have g1x := g1x t_rx1
    refine tn_icmp_ge (tgt := 85) dX8_share_47 (by decide) ⟨by omega, by omega⟩ ⟨by omega, by omega⟩ (fun h2 => ?_) (fun h2 => ?_)
    · exact tn_sub [0, 1, 2, 3] rfl (hx_85 (i3) σ hw (FrC.rfl.trans (FrC.sub hF (by decide))) (by omega) hC True.intro True.intro (hU_.to (by omega)))
    · refine tn_aload_n dX8_share_50 rfl 0 rfl ?_
      obtain ⟨hk5, hl6⟩ : AR T xr 1 201 201 := ar_of (wf_78 hw0 h_a) hxr
      have hk5i : IA T xr := by unfold IA; omega
      refine tn_getR (ci := 8) (i := 6) (n := 78) (x := xr) dX8_share_51 rfl lay_8 (by decide) fl8_28 h_a rfl rfl (rc_F hF (Or.inl (by decide)) (by decide) (hxr)) ?_
      refine tn_iload_n dX8_share_54 rfl 3 rfl ?_
      have cv7 : σ.2.1 (1000 + xr) = Rr := (CHX.r hC (by first | (simp; done) | (simp only [List.mem_cons, List.not_mem_nil, or_false, not_or]; first | omega | ((repeat' apply And.intro) <;> first | assumption | (apply Ne.symm; assumption))))).trans (hRr)
      refine tn_callSN (M := m_X8_share) (pc := 55) (ix := 74) (M' := m_X11_at) (As := [.ref xr, .int (iI i3)]) (rest := []) dX8_share_55 ok_X11_at stt_X11_at nl8_74 np_X11_at rfl (Nat.le_of_ble_eq_true rfl) (Nat.le_of_ble_eq_true rfl) rfl (k_X11_at_x (d + 3) (T := T) (σ := σ) (x := xr) (i := i3) (R := Rr) hk5i (by omega) (by omega) hw cv7) (fun r8 T10 σ9 gt11 hp => ?_)
      obtain ⟨v15, rfl, rfl, rfl, f12, f13, f14⟩ := hp
      clear gt11
      clear f13
      have f14u := f14
      unfold ATQ at f14u
      show Tn _ _ 58 T σ [(0, .ref a), (1, .ref rx1), (2, .int (iI c2)), (3, .int (iI i3))] [.int (iI v15)] _
      refine tn_if_eq (tgt := 79) dX8_share_58 (by decide) ⟨by omega, by omega⟩ (fun h16 => ?_) (fun h16 => ?_)
      · refine tn_iinc (q0 := 3) (L' := [(3, .int (iI (i3 + 1))), (0, .ref a), (1, .ref rx1), (2, .int (iI c2))]) dX8_share_79 rfl (by decide) rfl ?_
        refine tn_goto (tgt := 42) dX8_share_82 (by decide) ?_
        exact tn_sub [1, 2, 3, 0] rfl (ih _ (by omega) (i3 + 1) σ hw (FrC.rfl.trans (FrC.sub hF (by decide))) (by omega) hC (hU_.no (fun z => z.1 (by rw [trR_in ⟨by omega, by omega⟩]; have z := f14; unfold ATQ at z; omega))) (by omega) rfl)
      · refine tn_aload_n dX8_share_61 rfl 0 rfl ?_
        refine tn_aload_n dX8_share_62 rfl 1 rfl ?_
        refine tn_iload_n dX8_share_63 rfl 3 rfl ?_
        refine tn_iload_n dX8_share_64 rfl 2 rfl ?_
        obtain ⟨hl20, hk19a, hk19b⟩ := cel_of (wf_5 hw0 h_rx1) hx
        have hk19 : (T x).1 = 1 := hk19a (by omega)
        clear hk19a hk19b
        have hk19i : IA T x := by unfold IA; omega
        obtain ⟨hk23, hl24⟩ : AR T xy 3 603 603 := ar_of (wf_77 hw0 h_a) hxy
        have cv25 : σ.2.2 xy = Ly := (CHX.l hC (by first | (simp; done) | (simp only [List.mem_cons, List.not_mem_nil, or_false, not_or]; first | omega | ((repeat' apply And.intro) <;> first | assumption | (apply Ne.symm; assumption))))).trans (hLy)
        refine tn_callV (M := m_X8_share) (pc := 65) (ix := 78) (ci := 8) (M' := m_X8_leansOnLost) (As := [.ref rx1, .int (iI i3), .int (iI c2)]) (rest := []) dX8_share_65 ok_X8_leansOnLost im_X8_leansOnLost se_X8_leansOnLost ml8_78 np_X8_leansOnLost rfl rfl h_a rfl (Nat.le_of_ble_eq_true rfl) (Nat.le_of_ble_eq_true rfl) rfl (k_X8_leansOnLost_x (d + 1) (T := T) (σ := σ) (a := a) (p1 := rx1) (p2 := i3) (p3 := c2) (x := x) (n := n) (W := cW σ x n) (xy := xy) (Ly := Ly) h_a h_rx1 t_rx1 (by omega) (by omega) hw (rc_F hF (Or.inl (by decide)) (by decide) (hx)) (rc_F hF (Or.inl (by decide)) (by decide) (hn)) rfl (rc_F hF (Or.inl (by decide)) (by decide) (hxy)) cv25 (by omega) (by omega) (by omega)) (fun r26 T28 σ27 gt29 hp => ?_)
        obtain ⟨v32, rfl, rfl, rfl, f30, f31⟩ := hp
        clear gt29
        show Tn _ _ 68 T σ [(0, .ref a), (1, .ref rx1), (2, .int (iI c2)), (3, .int (iI i3))] [.int (iI v32)] _
        refine tn_if_eq (tgt := 79) dX8_share_68 (by decide) ⟨by omega, by omega⟩ (fun h33 => ?_) (fun h33 => ?_)
        · refine tn_iinc (q0 := 3) (L' := [(3, .int (iI (i3 + 1))), (0, .ref a), (1, .ref rx1), (2, .int (iI c2))]) dX8_share_79 rfl (by decide) rfl ?_
          refine tn_goto (tgt := 42) dX8_share_82 (by decide) ?_
          exact tn_sub [1, 2, 3, 0] rfl (ih _ (by omega) (i3 + 1) σ hw (FrC.rfl.trans (FrC.sub hF (by decide))) (by omega) hC (hU_.no (fun z => (f31.resolve_left (fun q => absurd q.1 (by omega))).2 z.2)) (by omega) rfl)
        · refine tn_aload_n dX8_share_71 rfl 1 rfl ?_
          refine tn_iload_n dX8_share_72 rfl 3 rfl ?_
          refine tn_bipush dX8_share_73 (by decide) ?_
          refine tn_iconst dX8_share_75 ?_
          refine tn_callV (M := m_X8_share) (pc := 76) (ix := 82) (ci := 1) (M' := m_X1_setWhere) (As := [.int (iI i3), .int (iI 13), .int (iI 0)]) (rest := []) dX8_share_76 ok_X1_setWhere im_X1_setWhere se_X1_setWhere ml8_82 np_X1_setWhere rfl rfl h_rx1 rfl (Nat.le_of_ble_eq_true rfl) (Nat.le_of_ble_eq_true rfl) rfl (k_X1_setWhere_x (d + 2) (T := T) (σ := σ) (a := rx1) (k := i3) (y := 13) (z := 0) (x := x) (n := n) (W := cW σ x n) h_rx1 (by omega) (by decide) (by decide) hw (rc_F hF (Or.inl (by decide)) (by decide) (hx)) (rc_F hF (Or.inl (by decide)) (by decide) (hn)) rfl (by omega) (by omega)) (fun r34 T36 σ35 gt37 hp => ?_)
          obtain ⟨rfl, rfl, w41, F42, f38, f39⟩ := hp
          clear gt37
          show Tn _ _ 79 T σ35 [(0, .ref a), (1, .ref rx1), (2, .int (iI c2)), (3, .int (iI i3))] [] _
          refine tn_iinc (q0 := 3) (L' := [(3, .int (iI (i3 + 1))), (0, .ref a), (1, .ref rx1), (2, .int (iI c2))]) dX8_share_79 rfl (by decide) rfl ?_
          refine tn_goto (tgt := 42) dX8_share_82 (by decide) ?_
          exact tn_sub [1, 2, 3, 0] rfl (ih _ (by omega) (i3 + 1) σ35 w41 ((FrC.rfl.trans (FrC.sub hF (by decide))).trans (FrC.sub F42 (by decide))) (by omega) (hC.trans (CHX.sub f38 (by simp) (by simp) (by simp))) (hU_.yes (by omega) (by rw [trR_in ⟨by omega, by omega⟩]; have z := f14; unfold ATQ at z; omega) (f31.resolve_right (fun q => absurd q.1 (by omega))).2 f39) (by omega) rfl)
set_option maxHeartbeats 1000000 in
set_option maxRecDepth 20000 in
theorem k_X8_share_x (d : Nat) {T : CT} {σ : MS} {a : Nat} {p1 : Nat} {x : Nat} {n : Int} {W : Int → It} {Fq : Int} {xn : Nat} {Rn : Int → Int} {xh : Nat} {Rh : Int → Int} {P : Int} {fl : Nat} {xa : Nat} {xo : Nat} {xf : Nat} {xd : Nat} {xg : Nat} {xm_ : Nat} {xy : Nat} {Ly : Int → Int64} {xr : Nat} {Rr : Int → Int} {xz : Nat} (ha : OB T a 8) (h_p1 : OB T p1 1) (t_p1 : (T p1).1 = 50) (hw : WT T σ) (hx : σ.2.1 5 p1 = (x : Int)) (hn : σ.2.1 6 p1 = n) (hW : cW σ x n = W) (hFq : σ.2.1 10 p1 = Fq) (hxn : σ.2.1 14 p1 = (xn : Int)) (hRn : σ.2.1 (1000 + xn) = Rn) (hxh : σ.2.1 15 p1 = (xh : Int)) (hRh : σ.2.1 (1000 + xh) = Rh) (hP : σ.2.1 8 p1 = P) (hfl : σ.2.1 72 a = (fl : Int)) (hxa : σ.2.1 18 fl = (xa : Int)) (hxo : σ.2.1 19 fl = (xo : Int)) (hxf : σ.2.1 74 a = (xf : Int)) (hxd : σ.2.1 73 a = (xd : Int)) (hxg : σ.2.1 76 a = (xg : Int)) (hxm_ : σ.2.1 75 a = (xm_ : Int)) (hxy : σ.2.1 77 a = (xy : Int)) (hLy : σ.2.2 xy = Ly) (hxr : σ.2.1 78 a = (xr : Int)) (hRr : σ.2.1 (1000 + xr) = Rr) (hxz : σ.2.1 79 a = (xz : Int)) (hN : n ≤ 200) (dq_xa_xo : NQ xa xo) (dq_xa_xf : NQ xa xf) (dq_xa_xd : NQ xa xd) (dq_xa_xg : NQ xa xg) (dq_xa_xy : NQ xa xy) (dq_xa_xz : NQ xa xz) (dq_xo_xf : NQ xo xf) (dq_xo_xd : NQ xo xd) (dq_xo_xg : NQ xo xg) (dq_xo_xy : NQ xo xy) (dq_xo_xz : NQ xo xz) (dq_xf_xd : NQ xf xd) (dq_xf_xg : NQ xf xg) (dq_xf_xy : NQ xf xy) (dq_xf_xz : NQ xf xz) (dq_xd_xg : NQ xd xg) (dq_xd_xy : NQ xd xy) (dq_xd_xz : NQ xd xz) (dq_xg_xy : NQ xg xy) (dq_xg_xz : NQ xg xz) (dq_xy_xz : NQ xy xz) (dq_x_xn : NQ x xn) (dq_x_xh : NQ x xh) (dq_x_xm_ : NQ x xm_) (dq_x_xr : NQ x xr) (dq_xn_xh : NQ xn xh) (dq_xn_xm_ : NQ xn xm_) (dq_xn_xr : NQ xn xr) (dq_xh_xm_ : NQ xh xm_) (dq_xh_xr : NQ xh xr) (dq_xm__xr : NQ xm_ xr) (hwok : WOK W n) (hmok : MOK W n) (hLk : LNK W n) (hU : UNQ (vW W) n) (hna : HNO Rn Rh Fq) (hgn : GNK W n) (hpn : P ≤ Rn 0 ∧ 1 ≤ Fq) (hrn12 : ∀ f, 0 ≤ f → f < Fq → Rn f ≤ 12) : Tn (d + 5) m_X8_share 0 T σ [(0, .ref a), (1, .ref p1)] [] (fun ro T2 σ2 => ∃ v : Int, ro = some (.int (iI v)) ∧ T = T2 ∧ WT T2 σ2 ∧ FrC T [80] σ σ2 ∧ (0 ≤ v ∧ v ≤ 192) ∧ (CHX [(80, a)] [x, xh, xm_, xr] [xa, xo, xf, xd, xg, xy, xz] σ σ2) ∧ (SHC W (cW σ2 x n) n P Fq Rn Rh (σ2.2.1 (1000 + xh)) v) ∧ (WOK (cW σ2 x n) n) ∧ (HNO Rn (σ2.2.1 (1000 + xh)) Fq)) := by
  have h6 := wf_6 hw h_p1
  have h8 := wf_8 hw h_p1
  have h6n : 0 ≤ n := by omega
  refine tn_aload_n dX8_share_0 rfl 0 rfl ?_
  have hk3 : (T fl).1 = 33 := ob_of (wf_72 hw ha) hfl
  have hk3o : OB T fl 3 := ⟨by omega, by rw [hk3]; rfl, by omega⟩
  refine tn_getR (ci := 8) (i := 0) (n := 72) (x := fl) dX8_share_1 rfl lay_8 (by decide) fl8_34 ha rfl rfl (hfl) ?_
  refine tn_aload_n dX8_share_4 rfl 1 rfl ?_
  obtain ⟨hl8, hk7a, hk7b⟩ := cel_of (wf_5 hw h_p1) hx
  have hk7 : (T x).1 = 1 := hk7a (by omega)
  clear hk7a hk7b
  have hk7i : IA T x := by unfold IA; omega
  obtain ⟨hk11, hl12⟩ : AR T xa 3 603 603 := ar_of (wf_18 hw hk3o) hxa
  obtain ⟨hk15, hl16⟩ : AR T xo 3 3 3 := ar_of (wf_19 hw hk3o) hxo
  refine tn_callV (M := m_X8_share) (pc := 5) (ix := 38) (ci := 3) (M' := m_X3_findLiving) (As := [.ref p1]) (rest := []) dX8_share_5 ok_X3_findLiving im_X3_findLiving se_X3_findLiving ml8_38 np_X3_findLiving rfl rfl hk3o rfl (Nat.le_of_ble_eq_true rfl) (Nat.le_of_ble_eq_true rfl) rfl (k_X3_findLiving_x (d) (T := T) (σ := σ) (a := fl) (p1 := p1) (x := x) (n := n) (W := W) (xa := xa) (La := σ.2.2 xa) (xo := xo) hk3o h_p1 t_p1 hw (hx) (hn) hW (hxa) rfl (hxo) (by omega) dq_xa_xo hwok hmok hLk hU) (fun r17 T19 σ18 gt20 hp => ?_)
  obtain ⟨rfl, rfl, w24, F25, f21, f22⟩ := hp
  clear gt20
  show Tn _ _ 8 T σ18 [(0, .ref a), (1, .ref p1)] [] _
  refine tn_aload_n dX8_share_8 rfl 1 rfl ?_
  have cv26 : cW σ18 x n = W := (cW_row (CHX.r f21 (by first | (simp; done) | (simp only [List.mem_cons, List.not_mem_nil, or_false, not_or]; first | omega | ((repeat' apply And.intro) <;> first | assumption | (apply Ne.symm; assumption)))))).trans (hW)
  obtain ⟨hk29, hl30⟩ : AR T xn 11 12 12 := ar_of (wf_14 hw h_p1) hxn
  have hk29i : IA T xn := by unfold IA; omega
  have cv31 : σ18.2.1 (1000 + xn) = Rn := (CHX.r f21 (by first | (simp; done) | (simp only [List.mem_cons, List.not_mem_nil, or_false, not_or]; first | omega | ((repeat' apply And.intro) <;> first | assumption | (apply Ne.symm; assumption))))).trans (hRn)
  obtain ⟨hk34, hl35⟩ : AR T xh 1 144 144 := ar_of (wf_15 hw h_p1) hxh
  have hk34i : IA T xh := by unfold IA; omega
  have cv36 : σ18.2.1 (1000 + xh) = Rh := (CHX.r f21 (by first | (simp; done) | (simp only [List.mem_cons, List.not_mem_nil, or_false, not_or]; first | omega | ((repeat' apply And.intro) <;> first | assumption | (apply Ne.symm; assumption))))).trans (hRh)
  refine tn_callV (M := m_X8_share) (pc := 9) (ix := 44) (ci := 1) (M' := m_X1_registers) (As := []) (rest := []) dX8_share_9 ok_X1_registers im_X1_registers se_X1_registers ml8_44 np_X1_registers rfl rfl h_p1 rfl (Nat.le_of_ble_eq_true rfl) (Nat.le_of_ble_eq_true rfl) rfl (k_X1_registers_x (d) (T := T) (σ := σ18) (a := p1) (x := x) (n := n) (W := W) (Fq := Fq) (xn := xn) (Rn := Rn) (xh := xh) (Rh := Rh) h_p1 w24 (rc_F F25 (Or.inl (by decide)) (by decide) (hx)) (rc_F F25 (Or.inl (by decide)) (by decide) (hn)) cv26 (rc_F F25 (Or.inl (by decide)) (by decide) (hFq)) (rc_F F25 (Or.inl (by decide)) (by decide) (hxn)) cv31 (rc_F F25 (Or.inl (by decide)) (by decide) (hxh)) cv36 (by omega) hwok hna) (fun r37 T39 σ38 gt40 hp => ?_)
  obtain ⟨v43, rfl, rfl, rfl, f41, f42⟩ := hp
  clear gt40
  show Tn _ _ 12 T σ18 [(0, .ref a), (1, .ref p1)] [.int (iI v43)] _
  refine tn_sipush dX8_share_12 (by decide) ?_
  refine tn_mmin (x := v43) (y := 192) dX8_share_15 mlm8_50 stM_min iniM cdM_min (by omega) (Nat.le_of_ble_eq_true rfl) ⟨by omega, by omega⟩ ⟨by omega, by omega⟩ (fun z44 g45 => ?_)
  have hq9 : z44 = v43 := by omega
  have hm9 : rgV (vW W) n (hmC Fq Rn Rh) (z44) := by rw [hq9]; exact f42.2.1
  have hr9 : RLT W n (z44) P Rh := RLT.mk hm9 hwok hpn hna
  refine tn_istore_n (L' := [(2, .int (iI z44)), (0, .ref a), (1, .ref p1)]) dX8_share_18 rfl (by decide) rfl ?_
  refine tn_aload_n dX8_share_19 rfl 1 rfl ?_
  refine tn_aload_n dX8_share_20 rfl 2 rfl ?_
  obtain ⟨hk48, hl49⟩ : AR T xf 3 3 3 := ar_of (wf_74 hw ha) hxf
  refine tn_callV (M := m_X8_share) (pc := 21) (ix := 56) (ci := 8) (M' := m_X8_findFirst) (As := [.ref p1]) (rest := []) dX8_share_21 ok_X8_findFirst im_X8_findFirst se_X8_findFirst ml8_56 np_X8_findFirst rfl rfl ha rfl (Nat.le_of_ble_eq_true rfl) (Nat.le_of_ble_eq_true rfl) rfl (k_X8_findFirst_x (d + 1) (T := T) (σ := σ18) (a := a) (p1 := p1) (fl := fl) (xa := xa) (La := σ18.2.2 xa) (xf := xf) (P := P) (xh := xh) (Rh := Rh) ha h_p1 t_p1 w24 (rc_F F25 (Or.inl (by decide)) (by decide) (hfl)) (rc_F F25 (Or.inl (by decide)) (by decide) (hxa)) rfl (rc_F F25 (Or.inl (by decide)) (by decide) (hxf)) (rc_F F25 (Or.inl (by decide)) (by decide) (hP)) (rc_F F25 (Or.inl (by decide)) (by decide) (hxh)) cv36 dq_xa_xf) (fun r50 T52 σ51 gt53 hp => ?_)
  obtain ⟨rfl, rfl, w57, F58, f54, f55⟩ := hp
  clear gt53
  show Tn _ _ 24 T σ51 [(2, .int (iI z44)), (0, .ref a), (1, .ref p1)] [] _
  refine tn_aload_n dX8_share_24 rfl 1 rfl ?_
  refine tn_aload_n dX8_share_25 rfl 2 rfl ?_
  refine tn_iload_n dX8_share_26 rfl 0 rfl ?_
  have cv59 : cW σ51 x n = W := (cW_row (CHX.r f54 (by first | (simp; done) | (simp only [List.mem_cons, List.not_mem_nil, or_false, not_or]; first | omega | ((repeat' apply And.intro) <;> first | assumption | (apply Ne.symm; assumption)))))).trans (cv26)
  have cv60 : σ51.2.2 xa = σ18.2.2 xa := (CHX.l f54 (by first | (simp; done) | (simp only [List.mem_cons, List.not_mem_nil, or_false, not_or]; first | omega | ((repeat' apply And.intro) <;> first | assumption | (apply Ne.symm; assumption))))).trans (rfl)
  obtain ⟨hk63, hl64⟩ : AR T xd 3 576 576 := ar_of (wf_73 hw ha) hxd
  refine tn_callV (M := m_X8_share) (pc := 27) (ix := 59) (ci := 8) (M' := m_X8_findOdds) (As := [.ref p1, .int (iI z44)]) (rest := []) dX8_share_27 ok_X8_findOdds im_X8_findOdds se_X8_findOdds ml8_59 np_X8_findOdds rfl rfl ha rfl (Nat.le_of_ble_eq_true rfl) (Nat.le_of_ble_eq_true rfl) rfl (k_X8_findOdds_x (d) (T := T) (σ := σ51) (a := a) (p1 := p1) (p2 := z44) (x := x) (n := n) (W := W) (fl := fl) (xa := xa) (La := σ18.2.2 xa) (xf := xf) (Lf := σ51.2.2 xf) (xd := xd) ha h_p1 t_p1 (by omega) w57 (rc_F F58 (Or.inl (by decide)) (by decide) (rc_F F25 (Or.inl (by decide)) (by decide) (hx))) (rc_F F58 (Or.inl (by decide)) (by decide) (rc_F F25 (Or.inl (by decide)) (by decide) (hn))) cv59 (rc_F F58 (Or.inl (by decide)) (by decide) (rc_F F25 (Or.inl (by decide)) (by decide) (hfl))) (rc_F F58 (Or.inl (by decide)) (by decide) (rc_F F25 (Or.inl (by decide)) (by decide) (hxa))) cv60 (rc_F F58 (Or.inl (by decide)) (by decide) (rc_F F25 (Or.inl (by decide)) (by decide) (hxf))) rfl (rc_F F58 (Or.inl (by decide)) (by decide) (rc_F F25 (Or.inl (by decide)) (by decide) (hxd))) (by omega) (by omega) ⟨dq_xa_xd, dq_xf_xd⟩ (by omega) (fun i g a b w => (hr9.2 i a b g (Or.inl (wrT_v.mpr w))).2)) (fun r65 T67 σ66 gt68 hp => ?_)
  obtain ⟨rfl, rfl, w72, F73, f69, f70⟩ := hp
  clear gt68
  show Tn _ _ 30 T σ66 [(2, .int (iI z44)), (0, .ref a), (1, .ref p1)] [] _
  refine tn_aload_n dX8_share_30 rfl 1 rfl ?_
  refine tn_iload_n dX8_share_31 rfl 0 rfl ?_
  obtain ⟨hk76, hl77⟩ : AR T xg 3 576 576 := ar_of (wf_76 hw ha) hxg
  obtain ⟨hk80, hl81⟩ : AR T xm_ 1 192 192 := ar_of (wf_75 hw ha) hxm_
  have hk80i : IA T xm_ := by unfold IA; omega
  refine tn_callV (M := m_X8_share) (pc := 32) (ix := 63) (ci := 8) (M' := m_X8_numberAnew) (As := [.int (iI z44)]) (rest := []) dX8_share_32 ok_X8_numberAnew im_X8_numberAnew se_X8_numberAnew ml8_63 np_X8_numberAnew rfl rfl ha rfl (Nat.le_of_ble_eq_true rfl) (Nat.le_of_ble_eq_true rfl) rfl (k_X8_numberAnew_x (d) (T := T) (σ := σ66) (a := a) (p1 := z44) (xg := xg) (xd := xd) (Ld := σ66.2.2 xd) (xm_ := xm_) ha (by omega) w72 (rc_F F73 (Or.inl (by decide)) (by decide) (rc_F F58 (Or.inl (by decide)) (by decide) (rc_F F25 (Or.inl (by decide)) (by decide) (hxg)))) (rc_F F73 (Or.inl (by decide)) (by decide) (rc_F F58 (Or.inl (by decide)) (by decide) (rc_F F25 (Or.inl (by decide)) (by decide) (hxd)))) rfl (rc_F F73 (Or.inl (by decide)) (by decide) (rc_F F58 (Or.inl (by decide)) (by decide) (rc_F F25 (Or.inl (by decide)) (by decide) (hxm_)))) dq_xd_xg.s (by omega)) (fun r82 T84 σ83 gt85 hp => ?_)
  obtain ⟨rfl, rfl, w89, F90, f86, f87⟩ := hp
  clear gt85
  show Tn _ _ 35 T σ83 [(2, .int (iI z44)), (0, .ref a), (1, .ref p1)] [] _
  refine tn_aload_n dX8_share_35 rfl 1 rfl ?_
  refine tn_aload_n dX8_share_36 rfl 2 rfl ?_
  have cv91 : cW σ83 x n = W := (cW_row (CHX.r f86 (by first | (simp; done) | (simp only [List.mem_cons, List.not_mem_nil, or_false, not_or]; first | omega | ((repeat' apply And.intro) <;> first | assumption | (apply Ne.symm; assumption)))))).trans ((cW_row (CHX.r f69 (by first | (simp; done) | (simp only [List.mem_cons, List.not_mem_nil, or_false, not_or]; first | omega | ((repeat' apply And.intro) <;> first | assumption | (apply Ne.symm; assumption)))))).trans (cv59))
  have cv92 : σ83.2.2 xf = σ51.2.2 xf := (CHX.l f86 (by first | (simp; done) | (simp only [List.mem_cons, List.not_mem_nil, or_false, not_or]; first | omega | ((repeat' apply And.intro) <;> first | assumption | (apply Ne.symm; assumption))))).trans ((CHX.l f69 (by first | (simp; done) | (simp only [List.mem_cons, List.not_mem_nil, or_false, not_or]; first | omega | ((repeat' apply And.intro) <;> first | assumption | (apply Ne.symm; assumption))))).trans (rfl))
  obtain ⟨hk95, hl96⟩ : AR T xy 3 603 603 := ar_of (wf_77 hw ha) hxy
  have cv97 : σ83.2.2 xy = Ly := (CHX.l f86 (by first | (simp; done) | (simp only [List.mem_cons, List.not_mem_nil, or_false, not_or]; first | omega | ((repeat' apply And.intro) <;> first | assumption | (apply Ne.symm; assumption))))).trans ((CHX.l f69 (by first | (simp; done) | (simp only [List.mem_cons, List.not_mem_nil, or_false, not_or]; first | omega | ((repeat' apply And.intro) <;> first | assumption | (apply Ne.symm; assumption))))).trans ((CHX.l f54 (by first | (simp; done) | (simp only [List.mem_cons, List.not_mem_nil, or_false, not_or]; first | omega | ((repeat' apply And.intro) <;> first | assumption | (apply Ne.symm; assumption))))).trans ((CHX.l f21 (by first | (simp; done) | (simp only [List.mem_cons, List.not_mem_nil, or_false, not_or]; first | omega | ((repeat' apply And.intro) <;> first | assumption | (apply Ne.symm; assumption))))).trans (hLy))))
  obtain ⟨hk100, hl101⟩ : AR T xz 3 3 3 := ar_of (wf_79 hw ha) hxz
  obtain ⟨hk104, hl105⟩ : AR T xr 1 201 201 := ar_of (wf_78 hw ha) hxr
  have hk104i : IA T xr := by unfold IA; omega
  have cv106 : σ83.2.1 (1000 + xr) = Rr := (CHX.r f86 (by first | (simp; done) | (simp only [List.mem_cons, List.not_mem_nil, or_false, not_or]; first | omega | ((repeat' apply And.intro) <;> first | assumption | (apply Ne.symm; assumption))))).trans ((CHX.r f69 (by first | (simp; done) | (simp only [List.mem_cons, List.not_mem_nil, or_false, not_or]; first | omega | ((repeat' apply And.intro) <;> first | assumption | (apply Ne.symm; assumption))))).trans ((CHX.r f54 (by first | (simp; done) | (simp only [List.mem_cons, List.not_mem_nil, or_false, not_or]; first | omega | ((repeat' apply And.intro) <;> first | assumption | (apply Ne.symm; assumption))))).trans ((CHX.r f21 (by first | (simp; done) | (simp only [List.mem_cons, List.not_mem_nil, or_false, not_or]; first | omega | ((repeat' apply And.intro) <;> first | assumption | (apply Ne.symm; assumption))))).trans (hRr))))
  refine tn_callV (M := m_X8_share) (pc := 37) (ix := 67) (ci := 8) (M' := m_X8_findLatest) (As := [.ref p1]) (rest := []) dX8_share_37 ok_X8_findLatest im_X8_findLatest se_X8_findLatest ml8_67 np_X8_findLatest rfl rfl ha rfl (Nat.le_of_ble_eq_true rfl) (Nat.le_of_ble_eq_true rfl) rfl (k_X8_findLatest_x (d) (T := T) (σ := σ83) (a := a) (p1 := p1) (x := x) (n := n) (W := W) (xg := xg) (Lg := σ83.2.2 xg) (xm_ := xm_) (Rm := σ83.2.1 (1000 + xm_)) (xf := xf) (Lf := σ51.2.2 xf) (xy := xy) (Ly := Ly) (xz := xz) (Lz := σ83.2.2 xz) (xr := xr) (Rr := Rr) (cc := σ.2.1 80 a) (bg := (bgV (vW W) n (pmC Rh P))) (q := (z44)) ha h_p1 t_p1 w89 (rc_F F90 (Or.inl (by decide)) (by decide) (rc_F F73 (Or.inl (by decide)) (by decide) (rc_F F58 (Or.inl (by decide)) (by decide) (rc_F F25 (Or.inl (by decide)) (by decide) (hx))))) (rc_F F90 (Or.inl (by decide)) (by decide) (rc_F F73 (Or.inl (by decide)) (by decide) (rc_F F58 (Or.inl (by decide)) (by decide) (rc_F F25 (Or.inl (by decide)) (by decide) (hn))))) cv91 (rc_F F90 (Or.inl (by decide)) (by decide) (rc_F F73 (Or.inl (by decide)) (by decide) (rc_F F58 (Or.inl (by decide)) (by decide) (rc_F F25 (Or.inl (by decide)) (by decide) (hxg))))) rfl (rc_F F90 (Or.inl (by decide)) (by decide) (rc_F F73 (Or.inl (by decide)) (by decide) (rc_F F58 (Or.inl (by decide)) (by decide) (rc_F F25 (Or.inl (by decide)) (by decide) (hxm_))))) rfl (rc_F F90 (Or.inl (by decide)) (by decide) (rc_F F73 (Or.inl (by decide)) (by decide) (rc_F F58 (Or.inl (by decide)) (by decide) (rc_F F25 (Or.inl (by decide)) (by decide) (hxf))))) cv92 (rc_F F90 (Or.inl (by decide)) (by decide) (rc_F F73 (Or.inl (by decide)) (by decide) (rc_F F58 (Or.inl (by decide)) (by decide) (rc_F F25 (Or.inl (by decide)) (by decide) (hxy))))) cv97 (rc_F F90 (Or.inl (by decide)) (by decide) (rc_F F73 (Or.inl (by decide)) (by decide) (rc_F F58 (Or.inl (by decide)) (by decide) (rc_F F25 (Or.inl (by decide)) (by decide) (hxz))))) rfl (rc_F F90 (Or.inl (by decide)) (by decide) (rc_F F73 (Or.inl (by decide)) (by decide) (rc_F F58 (Or.inl (by decide)) (by decide) (rc_F F25 (Or.inl (by decide)) (by decide) (hxr))))) cv106 (rc_F F90 (Or.inl (by decide)) (by decide) (rc_F F73 (Or.inl (by decide)) (by decide) (rc_F F58 (Or.inl (by decide)) (by decide) (rc_F F25 (Or.inl (by decide)) (by decide) (rfl))))) (by omega) hwok ⟨dq_xy_xz, dq_xg_xz, dq_x_xr, dq_xg_xy, dq_xm__xr, dq_xf_xy, dq_xf_xz⟩ (nap_grp f87) (fun i g a b w => hr9.2 i a b g (Or.inl (wrT_v.mpr w))) (fun u a b => sh_bg h6n f22 f55 (by omega)) (by omega) hLk hU) (fun r107 T109 σ108 gt110 hp => ?_)
  obtain ⟨rfl, rfl, w114, F115, f111, f112⟩ := hp
  clear gt110
  show Tn _ _ 40 T σ108 [(2, .int (iI z44)), (0, .ref a), (1, .ref p1)] [] _
  refine tn_iconst dX8_share_40 ?_
  refine tn_istore_n (L' := [(3, .int (iI 0)), (2, .int (iI z44)), (0, .ref a), (1, .ref p1)]) dX8_share_41 rfl (by decide) rfl ?_
  have cv116 : cW σ108 x n = W := (cW_row (CHX.r f111 (by first | (simp; done) | (simp only [List.mem_cons, List.not_mem_nil, or_false, not_or]; first | omega | ((repeat' apply And.intro) <;> first | assumption | (apply Ne.symm; assumption)))))).trans (cv91)
  refine tn_sub [2, 3, 1, 0] rfl (l_X8_share_x_42 (d) (T := T) (σ0 := σ108) (a := a) (rx1 := p1) (c2 := z44) (x := x) (n := n) (W := W) (Fq := Fq) (xn := xn) (Rn := Rn) (xh := xh) (Rh := Rh) (P := P) (fl := fl) (xa := xa) (xo := xo) (xf := xf) (xd := xd) (xg := xg) (xm_ := xm_) (xy := xy) (Ly := (σ108.2.2 xy)) (xr := xr) (Rr := (σ108.2.1 (1000 + xr))) (xz := xz) ha h_p1 t_p1 (by omega) w114 (by omega) (by omega) (rc_F F115 (Or.inl (by decide)) (by decide) (rc_F F90 (Or.inl (by decide)) (by decide) (rc_F F73 (Or.inl (by decide)) (by decide) (rc_F F58 (Or.inl (by decide)) (by decide) (rc_F F25 (Or.inl (by decide)) (by decide) (hx)))))) (rc_F F115 (Or.inl (by decide)) (by decide) (rc_F F90 (Or.inl (by decide)) (by decide) (rc_F F73 (Or.inl (by decide)) (by decide) (rc_F F58 (Or.inl (by decide)) (by decide) (rc_F F25 (Or.inl (by decide)) (by decide) (hn)))))) (rc_F F115 (Or.inl (by decide)) (by decide) (rc_F F90 (Or.inl (by decide)) (by decide) (rc_F F73 (Or.inl (by decide)) (by decide) (rc_F F58 (Or.inl (by decide)) (by decide) (rc_F F25 (Or.inl (by decide)) (by decide) (hxy)))))) rfl (rc_F F115 (Or.inl (by decide)) (by decide) (rc_F F90 (Or.inl (by decide)) (by decide) (rc_F F73 (Or.inl (by decide)) (by decide) (rc_F F58 (Or.inl (by decide)) (by decide) (rc_F F25 (Or.inl (by decide)) (by decide) (hxr)))))) rfl hN dq_x_xr (fun i3117 σ118 w121 F122 r123 f124 f125 f126 f127 => ?_) _ (0) σ108 w114 FrC.rfl (by omega) CHX.rfl (by rw [cv116]; exact UBP.nil) (by omega) rfl)
  show Tn _ _ 85 T σ118 [(0, .ref a), (1, .ref p1), (2, .int (iI z44)), (3, .int (iI i3117))] [] _
  refine tn_aload_n dX8_share_85 rfl 0 rfl ?_
  refine tn_aload_n dX8_share_86 rfl 1 rfl ?_
  have cv128 : σ118.2.1 (1000 + xh) = Rh := (CHX.r f124 (by first | (simp; done) | (simp only [List.mem_cons, List.not_mem_nil, or_false, not_or]; first | omega | ((repeat' apply And.intro) <;> first | assumption | (apply Ne.symm; assumption))))).trans ((CHX.r f111 (by first | (simp; done) | (simp only [List.mem_cons, List.not_mem_nil, or_false, not_or]; first | omega | ((repeat' apply And.intro) <;> first | assumption | (apply Ne.symm; assumption))))).trans ((CHX.r f86 (by first | (simp; done) | (simp only [List.mem_cons, List.not_mem_nil, or_false, not_or]; first | omega | ((repeat' apply And.intro) <;> first | assumption | (apply Ne.symm; assumption))))).trans ((CHX.r f69 (by first | (simp; done) | (simp only [List.mem_cons, List.not_mem_nil, or_false, not_or]; first | omega | ((repeat' apply And.intro) <;> first | assumption | (apply Ne.symm; assumption))))).trans ((CHX.r f54 (by first | (simp; done) | (simp only [List.mem_cons, List.not_mem_nil, or_false, not_or]; first | omega | ((repeat' apply And.intro) <;> first | assumption | (apply Ne.symm; assumption))))).trans (cv36)))))
  have cv129 : σ118.2.1 (1000 + xm_) = σ83.2.1 (1000 + xm_) := (CHX.r f124 (by first | (simp; done) | (simp only [List.mem_cons, List.not_mem_nil, or_false, not_or]; first | omega | ((repeat' apply And.intro) <;> first | assumption | (apply Ne.symm; assumption))))).trans ((CHX.r f111 (by first | (simp; done) | (simp only [List.mem_cons, List.not_mem_nil, or_false, not_or]; first | omega | ((repeat' apply And.intro) <;> first | assumption | (apply Ne.symm; assumption))))).trans (rfl))
  refine tn_callV (M := m_X8_share) (pc := 87) (ix := 86) (ci := 8) (M' := m_X8_renumber) (As := [.ref p1]) (rest := []) dX8_share_87 ok_X8_renumber im_X8_renumber se_X8_renumber ml8_86 np_X8_renumber rfl rfl ha rfl (Nat.le_of_ble_eq_true rfl) (Nat.le_of_ble_eq_true rfl) rfl (k_X8_renumber_x (d + 1) (T := T) (σ := σ118) (a := a) (p1 := p1) (x := x) (n := n) (W := cW σ118 x n) (Fq := Fq) (xh := xh) (Rh := Rh) (xm_ := xm_) (Rm := σ83.2.1 (1000 + xm_)) ha h_p1 t_p1 w121 (rc_F F122 (Or.inl (by decide)) (by decide) (rc_F F115 (Or.inl (by decide)) (by decide) (rc_F F90 (Or.inl (by decide)) (by decide) (rc_F F73 (Or.inl (by decide)) (by decide) (rc_F F58 (Or.inl (by decide)) (by decide) (rc_F F25 (Or.inl (by decide)) (by decide) (hx))))))) (rc_F F122 (Or.inl (by decide)) (by decide) (rc_F F115 (Or.inl (by decide)) (by decide) (rc_F F90 (Or.inl (by decide)) (by decide) (rc_F F73 (Or.inl (by decide)) (by decide) (rc_F F58 (Or.inl (by decide)) (by decide) (rc_F F25 (Or.inl (by decide)) (by decide) (hn))))))) rfl (rc_F F122 (Or.inl (by decide)) (by decide) (rc_F F115 (Or.inl (by decide)) (by decide) (rc_F F90 (Or.inl (by decide)) (by decide) (rc_F F73 (Or.inl (by decide)) (by decide) (rc_F F58 (Or.inl (by decide)) (by decide) (rc_F F25 (Or.inl (by decide)) (by decide) (hFq))))))) (rc_F F122 (Or.inl (by decide)) (by decide) (rc_F F115 (Or.inl (by decide)) (by decide) (rc_F F90 (Or.inl (by decide)) (by decide) (rc_F F73 (Or.inl (by decide)) (by decide) (rc_F F58 (Or.inl (by decide)) (by decide) (rc_F F25 (Or.inl (by decide)) (by decide) (hxh))))))) cv128 (rc_F F122 (Or.inl (by decide)) (by decide) (rc_F F115 (Or.inl (by decide)) (by decide) (rc_F F90 (Or.inl (by decide)) (by decide) (rc_F F73 (Or.inl (by decide)) (by decide) (rc_F F58 (Or.inl (by decide)) (by decide) (rc_F F25 (Or.inl (by decide)) (by decide) (hxm_))))))) cv129 (by omega) ⟨dq_x_xh, dq_x_xm_, dq_xh_xm_⟩ (f127.ok hwok)) (fun r130 T132 σ131 gt133 hp => ?_)
  obtain ⟨rfl, rfl, w138, F139, f134, f135, f136⟩ := hp
  clear gt133
  show Tn _ _ 90 T σ131 [(0, .ref a), (1, .ref p1), (2, .int (iI z44)), (3, .int (iI i3117))] [] _
  have hS9 := SHC.mk (W3 := cW σ131 x n) (R2 := σ131.2.1 (1000 + xh)) h6n (by omega) hwok hgn hna hpn hrn12 hm9 f22 f55 f70 f87 f112 f127 (fun k z => cw_z z) f135 f136
  refine tn_aload_n dX8_share_90 rfl 1 rfl ?_
  have cv140 : σ131.2.1 (1000 + xn) = Rn := (CHX.r f134 (by first | (simp; done) | (simp only [List.mem_cons, List.not_mem_nil, or_false, not_or]; first | omega | ((repeat' apply And.intro) <;> first | assumption | (apply Ne.symm; assumption))))).trans ((CHX.r f124 (by first | (simp; done) | (simp only [List.mem_cons, List.not_mem_nil, or_false, not_or]; first | omega | ((repeat' apply And.intro) <;> first | assumption | (apply Ne.symm; assumption))))).trans ((CHX.r f111 (by first | (simp; done) | (simp only [List.mem_cons, List.not_mem_nil, or_false, not_or]; first | omega | ((repeat' apply And.intro) <;> first | assumption | (apply Ne.symm; assumption))))).trans ((CHX.r f86 (by first | (simp; done) | (simp only [List.mem_cons, List.not_mem_nil, or_false, not_or]; first | omega | ((repeat' apply And.intro) <;> first | assumption | (apply Ne.symm; assumption))))).trans ((CHX.r f69 (by first | (simp; done) | (simp only [List.mem_cons, List.not_mem_nil, or_false, not_or]; first | omega | ((repeat' apply And.intro) <;> first | assumption | (apply Ne.symm; assumption))))).trans ((CHX.r f54 (by first | (simp; done) | (simp only [List.mem_cons, List.not_mem_nil, or_false, not_or]; first | omega | ((repeat' apply And.intro) <;> first | assumption | (apply Ne.symm; assumption))))).trans (cv31))))))
  refine tn_callV (M := m_X8_share) (pc := 91) (ix := 44) (ci := 1) (M' := m_X1_registers) (As := []) (rest := []) dX8_share_91 ok_X1_registers im_X1_registers se_X1_registers ml8_44 np_X1_registers rfl rfl h_p1 rfl (Nat.le_of_ble_eq_true rfl) (Nat.le_of_ble_eq_true rfl) rfl (k_X1_registers_x (d) (T := T) (σ := σ131) (a := p1) (x := x) (n := n) (W := cW σ131 x n) (Fq := Fq) (xn := xn) (Rn := Rn) (xh := xh) (Rh := σ131.2.1 (1000 + xh)) h_p1 w138 (rc_F F139 (Or.inl (by decide)) (by decide) (rc_F F122 (Or.inl (by decide)) (by decide) (rc_F F115 (Or.inl (by decide)) (by decide) (rc_F F90 (Or.inl (by decide)) (by decide) (rc_F F73 (Or.inl (by decide)) (by decide) (rc_F F58 (Or.inl (by decide)) (by decide) (rc_F F25 (Or.inl (by decide)) (by decide) (hx)))))))) (rc_F F139 (Or.inl (by decide)) (by decide) (rc_F F122 (Or.inl (by decide)) (by decide) (rc_F F115 (Or.inl (by decide)) (by decide) (rc_F F90 (Or.inl (by decide)) (by decide) (rc_F F73 (Or.inl (by decide)) (by decide) (rc_F F58 (Or.inl (by decide)) (by decide) (rc_F F25 (Or.inl (by decide)) (by decide) (hn)))))))) rfl (rc_F F139 (Or.inl (by decide)) (by decide) (rc_F F122 (Or.inl (by decide)) (by decide) (rc_F F115 (Or.inl (by decide)) (by decide) (rc_F F90 (Or.inl (by decide)) (by decide) (rc_F F73 (Or.inl (by decide)) (by decide) (rc_F F58 (Or.inl (by decide)) (by decide) (rc_F F25 (Or.inl (by decide)) (by decide) (hFq)))))))) (rc_F F139 (Or.inl (by decide)) (by decide) (rc_F F122 (Or.inl (by decide)) (by decide) (rc_F F115 (Or.inl (by decide)) (by decide) (rc_F F90 (Or.inl (by decide)) (by decide) (rc_F F73 (Or.inl (by decide)) (by decide) (rc_F F58 (Or.inl (by decide)) (by decide) (rc_F F25 (Or.inl (by decide)) (by decide) (hxn)))))))) cv140 (rc_F F139 (Or.inl (by decide)) (by decide) (rc_F F122 (Or.inl (by decide)) (by decide) (rc_F F115 (Or.inl (by decide)) (by decide) (rc_F F90 (Or.inl (by decide)) (by decide) (rc_F F73 (Or.inl (by decide)) (by decide) (rc_F F58 (Or.inl (by decide)) (by decide) (rc_F F25 (Or.inl (by decide)) (by decide) (hxh)))))))) rfl (by omega) hS9.1 hS9.2.1) (fun r141 T143 σ142 gt144 hp => ?_)
  obtain ⟨v147, rfl, rfl, rfl, f145, f146⟩ := hp
  clear gt144
  show Tn _ _ 94 T σ131 [(0, .ref a), (1, .ref p1), (2, .int (iI z44)), (3, .int (iI i3117))] [.int (iI v147)] _
  exact tn_iret rfl dX8_share_94 ⟨_, rfl, rfl, w138, (((((((FrC.rfl.trans (FrC.sub F25 (by decide))).trans (FrC.sub F58 (by decide))).trans (FrC.sub F73 (by decide))).trans (FrC.sub F90 (by decide))).trans (FrC.sub F115 (by decide))).trans (FrC.sub F122 (by decide))).trans (FrC.sub F139 (by decide))), by omega, (((((((CHX.rfl.trans (CHX.sub f21 (by simp) (by simp) (by simp))).trans (CHX.sub f54 (by simp) (by simp) (by simp))).trans (CHX.sub f69 (by simp) (by simp) (by simp))).trans (CHX.sub f86 (by simp) (by simp) (by simp))).trans (CHX.sub f111 (by simp) (by simp) (by simp))).trans (CHX.sub f124 (by simp) (by simp) (by simp))).trans (CHX.sub f134 (by simp) (by simp) (by simp))), (hS9.2.2 _ f146), hS9.1, hS9.2.1⟩
end
section
def DS (l : List Nat) : Prop := ∀ (i j : Nat) (a b : Nat), l[i]? = some a → l[j]? = some b → i ≠ j → a ≠ b
theorem DS.ne {l : List Nat} (h : DS l) {i j a b : Nat} (hi : l[i]? = some a) (hj : l[j]? = some b) (hij : i ≠ j) : a ≠ b := h i j a b hi hj hij
theorem DS.sub {l l2 : List Nat} (h : DS l) (ix : List Nat) (hd : ∀ i : Nat, i < ix.length → ∀ j : Nat, j < ix.length → ix[i]? = ix[j]? → i = j) (he : ix.map (fun i => l[i]?) = l2.map some) : DS l2 := fun i j a b hi hj hij => by
  have ge : ∀ (i a : Nat), l2[i]? = some a → ∃ p, ix[i]? = some p ∧ l[p]? = some a := fun i a e => by
    have z : (l2.map some)[i]? = some (some a) := by rw [List.getElem?_map, e]; rfl
    rw [← he, List.getElem?_map] at z
    cases q : ix[i]? with
    | none => rw [q] at z; exact absurd z (by simp)
    | some p => rw [q] at z; exact ⟨p, rfl, by simpa using z⟩
  obtain ⟨p, p1, p2⟩ := ge i a hi
  obtain ⟨q, q1, q2⟩ := ge j b hj
  exact h p q a b p2 q2 (fun e => hij (hd i (List.getElem?_eq_some_iff.mp p1).1 j (List.getElem?_eq_some_iff.mp q1).1 (by rw [p1, q1, e])))
def CHN (T : CT) (ks : List (Nat × Nat)) (rs ls : List Nat) (σ τ : MS) : Prop := (∀ (j : Nat) (b : Int), j < 1000 → (∀ p, p ∈ ks → p.1 = j → (p.2 : Int) ≠ b) → τ.2.1 j b = σ.2.1 j b) ∧ (∀ x, x ∉ rs → ((T x).1 ≠ 0 ∧ (T x).1 < 80) → τ.2.1 (1000 + x) = σ.2.1 (1000 + x)) ∧ ∀ x, x ∉ ls → τ.2.2 x = σ.2.2 x
section CHNS
variable {T T2 : CT} {ks ks2 : List (Nat × Nat)} {rs ls rs2 ls2 : List Nat} {σ τ υ : MS} {x n a : Nat} {z v : Int}
theorem CHN.rfl : CHN T ks rs ls σ σ := ⟨fun _ _ _ _ => Eq.refl _, fun _ _ _ => Eq.refl _, fun _ _ => Eq.refl _⟩
theorem CHN.trans (h : CHN T ks rs ls σ τ) (g : CHN T ks rs ls τ υ) : CHN T ks rs ls σ υ := ⟨fun j b a c => (g.1 j b a c).trans (h.1 j b a c), fun x a c => (g.2.1 x a c).trans (h.2.1 x a c), fun x a => (g.2.2 x a).trans (h.2.2 x a)⟩
theorem CHN.sub (h : CHN T ks rs ls σ τ) (a : ∀ p, p ∈ ks → p ∈ ks2) (b : ∀ x, x ∈ rs → x ∈ rs2) (c : ∀ x, x ∈ ls → x ∈ ls2) : CHN T ks2 rs2 ls2 σ τ := ⟨fun j y i k => h.1 j y i (fun p q => k p (a p q)), fun x q w => h.2.1 x (fun y => q (b x y)) w, fun x q => h.2.2 x (fun w => q (c x w))⟩
theorem CHN.of (h : CHX ks rs ls σ τ) (a : ∀ p, p ∈ ks → p ∈ ks2) (b : ∀ x, x ∈ rs → x ∈ rs2 ∨ (T x).1 = 0) (c : ∀ x, x ∈ ls → x ∈ ls2) : CHN T ks2 rs2 ls2 σ τ := ⟨fun j y i k => h.1 j y i (fun p q => k p (a p q)), fun x q w => h.2.1 x (fun y => (b x y).elim q w.1), fun x q => h.2.2 x (fun w => q (c x w))⟩
theorem CHN.fld (h : CHN T ks rs ls σ τ) (m : (n, a) ∈ ks) (hn : n < 1000) : CHN T ks rs ls σ (sA n a v τ) := h.trans (CHN.of (CHX.fld (CHX.rfl (ks := ks) (rs := []) (ls := [])) m hn) (fun _ q => q) (fun _ q => absurd q (by simp)) (fun _ q => absurd q (by simp)))
theorem CHN.arr (h : CHN T ks rs ls σ τ) (m : x ∈ rs ∨ (T x).1 = 0) : CHN T ks rs ls σ (sA (1000 + x) z v τ) := h.trans (CHN.of (CHX.arr (CHX.rfl (ks := []) (rs := [x]) (ls := [])) (by simp)) (fun _ q => absurd q (by simp)) (fun y q => by rw [List.mem_singleton.mp q]; exact m) (fun _ q => absurd q (by simp)))
theorem CHN.row {f : Int → Int} (h : CHN T ks rs ls σ τ) (m : x ∈ rs ∨ (T x).1 = 0) : CHN T ks rs ls σ (rowS (1000 + x) f τ) := h.trans (CHN.of (CHX.row (CHX.rfl (ks := []) (rs := [x]) (ls := [])) (by simp)) (fun _ q => absurd q (by simp)) (fun y q => by rw [List.mem_singleton.mp q]; exact m) (fun _ q => absurd q (by simp)))
theorem CHN.r (h : CHN T ks rs ls σ τ) (hT : (T x).1 ≠ 0 ∧ (T x).1 < 80) (hx : x ∉ rs) : τ.2.1 (1000 + x) = σ.2.1 (1000 + x) := h.2.1 x hx hT
theorem CHN.l (h : CHN T ks rs ls σ τ) (hx : x ∉ ls) : τ.2.2 x = σ.2.2 x := h.2.2 x hx
theorem CHN.f (h : CHN T ks rs ls σ τ) (hn : n < 1000) (hk : (n, a) ∉ ks) : τ.2.1 n a = σ.2.1 n a := CHX.f (rs := []) (ls := []) (τ := (τ.1, fun j b => if j < 1000 then τ.2.1 j b else σ.2.1 j b, σ.2.2)) (σ := σ) ⟨fun j b i k => by show (if j < 1000 then τ.2.1 j b else σ.2.1 j b) = _; rw [if_pos i]; exact h.1 j b i k, fun x _ => by funext b; show (if 1000 + x < 1000 then _ else _) = _; rw [if_neg (by omega)], fun _ _ => Eq.refl _⟩ hn hk |>.symm ▸ (by show τ.2.1 n a = (if n < 1000 then τ.2.1 n a else σ.2.1 n a); rw [if_pos hn])
end CHNS
theorem cN_n {P : Int → Prop} {k : Int} (h : 0 ≤ k) (q : ¬ P k) : cN P 0 (k + 1).toNat = cN P 0 k.toNat := by rw [cN_1s h, dI_n q]; omega
theorem cN_y {P : Int → Prop} {k : Int} (h : 0 ≤ k) (q : P k) : cN P 0 (k + 1).toNat = cN P 0 k.toNat + 1 := by rw [cN_1s h, dI_y q]
theorem cN_z {P : Int → Prop} : cN P 0 (0 : Int).toNat = 0 := rfl
theorem cN_b {P : Int → Prop} {k : Int} (h : 0 ≤ k) : 0 ≤ cN P 0 k.toNat ∧ cN P 0 k.toNat ≤ k := ⟨cN_0.1, by have := cN_le (P := P) (a := 0) (n := k.toNat); omega⟩
def nnC (La : Int → Int64) (Rh : Int → Int) (P g : Int) : Prop := bT La 0 g ∧ ¬ pmC Rh P g
def gOK (i : It) : Prop := iOK i ∧ (i 0 = 8 ∨ i 0 = 9 ∨ i 0 = 13 → 0 ≤ i 1 ∧ i 1 ≤ 5000) ∧ (i 0 = 11 ∨ i 0 = 12 → 0 ≤ i 2 ∧ i 2 ≤ 12) ∧ (i 0 = 14 ∨ i 0 = 15 → 0 ≤ i 1 ∧ i 1 ≤ 12)
def GOK (W : Int → It) (n : Int) : Prop := ∀ k, 0 ≤ k → k < n → gOK (W k)
theorem GOK.w {W : Int → It} {n : Int} (h : GOK W n) : WOK W n := fun k a b => (h k a b).1
theorem it_s {W0 W1 W2 : Int → It} {k c y : Int} {i : It} (h1 : W1 = uZ W0 k i) (h2 : W2 = uZ W1 k (uZ (W1 k) c y)) : W2 = uZ W0 k (uZ i c y) := by
  subst h1
  rw [uZ_eq, uZ_uZ] at h2
  exact h2
theorem it_3 {W0 W1 W2 : Int → It} {k c1 c2 c3 y1 y2 y3 : Int} {i : It} (h1 : W1 = uZ W0 k i) (h2 : W2 = uZ W1 k (uZ (uZ (uZ (W1 k) c1 y1) c2 y2) c3 y3)) : W2 = uZ W0 k (uZ (uZ (uZ i c1 y1) c2 y2) c3 y3) := by
  subst h1
  rw [uZ_eq, uZ_uZ] at h2
  exact h2
def rgB (i : It) (c : Int) : Prop := i c = 2 ∨ (c = 3 ∧ i 0 = 12 ∧ i 11 = 2)
noncomputable def aiO (base : Int) (i : It) (c : Int) : Int := if c = 3 ∨ c = 5 ∨ c = 7 ∨ c = 9 then i c else dI (rgB i (c - 1)) (i c + base) (i c)
noncomputable def aiP (base : Int) (i row : It) (m : Int) : It := fun c => if 3 ≤ c ∧ c < 3 + 2 * m then aiO base i c else row c
def AIP (W1 V : Int → It) (base : Int) (i : It) (k c : Int) : Prop := ∃ m : Int, c = 3 + 2 * m ∧ (0 ≤ m ∧ m ≤ 4) ∧ V = uZ W1 k (aiP base i (W1 k) m)
section AIS
variable {W1 V V1 V2 : Int → It} {base k c y z : Int} {i : It}
theorem AIP.nil : AIP W1 W1 base i k 3 := ⟨0, by decide, by decide, uZ_self (by funext c; unfold aiP; rw [if_neg (by omega)])⟩
theorem AIP.num (h : AIP W1 V base i k c) : c = 3 ∨ c = 5 ∨ c = 7 ∨ c = 9 ∨ c = 11 := by
  obtain ⟨m, a, b, -⟩ := h
  omega
theorem AIP.step (h : AIP W1 V base i k c) (hc : c < 11) (e1 : V1 = uZ V k (uZ (V k) c y)) (e2 : V2 = uZ V1 k (uZ (V1 k) (c + 1) z)) (hy : y = i c) (hz : z = dI (rgB i c) (i (c + 1) + base) (i (c + 1))) : AIP W1 V2 base i k (c + 2) := by
  obtain ⟨m, a, b, e⟩ := h
  refine ⟨m + 1, by omega, by omega, ?_⟩
  have f := it_s (it_s e e1) e2
  rw [f]
  congr 1
  funext q
  by_cases q1 : q = c + 1
  · rw [q1, uZ_eq, hz]
    unfold aiP aiO
    rw [if_pos (by omega), if_neg (by omega), show c + 1 - 1 = c by omega]
  · rw [uZ_ne q1]
    by_cases q2 : q = c
    · rw [q2, uZ_eq, hy]
      unfold aiP aiO
      rw [if_pos (by omega), if_pos (by omega)]
    · rw [uZ_ne q2]
      unfold aiP
      by_cases q3 : 3 ≤ q ∧ q < 3 + 2 * m
      · rw [if_pos q3, if_pos (by omega)]
      · rw [if_neg q3, if_neg (by omega)]
end AIS
def shF (fb base lb k : Int) : Int := if k ≤ 5 then base else if k = 8 ∨ k = 9 ∨ k = 13 then lb else if k = 14 ∨ k = 15 then fb else 0
noncomputable def amI (fb base lb : Int) (i row : It) : It := uZ (uZ (uZ (uZ (aiP base i row 4) 11 (i 11)) 0 (i 0)) 1 (i 1 + shF fb base lb (i 0))) 2 (i 2 + (if i 0 = 11 ∨ i 0 = 12 then fb else 0))
theorem am_mk {W0 V V1 V2 : Int → It} {fb base lb k c a b x y : Int} {i : It} (h : AIP W0 V base i k c) (hc : 11 ≤ c) (e1 : V1 = uZ V k (uZ (V k) 11 a)) (e2 : V2 = uZ V1 k (uZ (uZ (uZ (V1 k) 0 b) 1 x) 2 y)) (ha : a = i 11) (hb : b = i 0) (hx : x = i 1 + shF fb base lb (i 0)) (hy : y = i 2 + (if i 0 = 11 ∨ i 0 = 12 then fb else 0)) : V2 = uZ W0 k (amI fb base lb i (W0 k)) := by
  obtain ⟨m, p, q, e⟩ := h
  have m4 : m = 4 := by omega
  subst m4
  have f := it_3 (it_s e e1) e2
  rw [f, ha, hb, hx, hy]
  rfl
theorem am_nrm {fb base lb : Int} {i : It} (h : iOK i) (hz : ∀ c, ¬ (0 ≤ c ∧ c ≤ 12) → i c = 0) (h7 : i 0 ≠ 7 ∧ i 0 ≠ 10) : nrm (amI fb base lb i zI) = mlI fb base lb (nrm i) := by
  have a0 : amI fb base lb i zI 0 = i 0 := by unfold amI; rw [uZ_ne (by decide), uZ_ne (by decide), uZ_eq]
  have a11 : amI fb base lb i zI 11 = i 11 := by unfold amI; rw [uZ_ne (by decide), uZ_ne (by decide), uZ_ne (by decide), uZ_eq]
  have n0 : nrm i 0 = i 0 := nrm_ne (by decide) (by decide)
  have n1 : nrm i 1 = i 1 := nrm_ne (by decide) (by decide)
  have n2 : nrm i 2 = i 2 := nrm_ne (by decide) (by decide)
  have k0 := h.1
  -- what mlI says, cell by cell
  have ml : ∀ c, mlI fb base lb (nrm i) c = if c = 1 then i 1 + shF fb base lb (i 0) else if c = 2 then i 2 + (if i 0 = 11 ∨ i 0 = 12 then fb else 0) else shO base (nrm i) c := fun c => by
    have s1 : shO base (nrm i) 1 = i 1 := by unfold shO; rw [if_neg (by omega)]; exact n1
    have s2 : shO base (nrm i) 2 = i 2 := by unfold shO; rw [if_neg (by omega)]; exact n2
    unfold mlI
    rw [n0, n1, n2]
    unfold shF
    by_cases x1 : i 0 = 8 ∨ i 0 = 9 ∨ i 0 = 13
    · rw [if_pos x1, if_neg (show ¬ i 0 ≤ 5 by omega), if_pos x1, if_neg (show ¬ (i 0 = 11 ∨ i 0 = 12) by omega)]
      by_cases c1 : c = 1
      · rw [c1, uZ_eq, if_pos rfl]
      · rw [uZ_ne c1, if_neg c1]
        by_cases c2 : c = 2
        · rw [c2, if_pos rfl, s2]; omega
        · rw [if_neg c2]
    · rw [if_neg x1]
      by_cases x2 : i 0 = 11 ∨ i 0 = 12
      · rw [if_pos x2, if_neg (show ¬ i 0 ≤ 5 by omega), if_neg x1, if_neg (show ¬ (i 0 = 14 ∨ i 0 = 15) by omega), if_pos x2]
        by_cases c2 : c = 2
        · rw [c2, uZ_eq, if_neg (by decide), if_pos rfl]
        · rw [uZ_ne c2, if_neg c2]
          by_cases c1 : c = 1
          · rw [c1, if_pos rfl, s1]; omega
          · rw [if_neg c1]
      · rw [if_neg x2, if_neg x2]
        by_cases x3 : i 0 = 14 ∨ i 0 = 15
        · rw [if_pos x3, if_neg (show ¬ i 0 ≤ 5 by omega), if_neg x1, if_pos x3]
          by_cases c1 : c = 1
          · rw [c1, uZ_eq, if_pos rfl]
          · rw [uZ_ne c1, if_neg c1]
            by_cases c2 : c = 2
            · rw [c2, if_pos rfl, s2]; omega
            · rw [if_neg c2]
        · rw [if_neg x3]
          by_cases x4 : i 0 = 6
          · rw [if_pos x4, if_neg (show ¬ i 0 ≤ 5 by omega), if_neg x1, if_neg x3]
            by_cases c1 : c = 1
            · rw [c1, if_pos rfl, s1]; omega
            · rw [if_neg c1]
              by_cases c2 : c = 2
              · rw [c2, if_pos rfl, s2]; omega
              · rw [if_neg c2]
          · rw [if_neg x4, if_pos (show i 0 ≤ 5 by omega)]
            by_cases c1 : c = 1
            · rw [c1, uZ_eq, if_pos rfl]
            · rw [uZ_ne c1, if_neg c1]
              by_cases c2 : c = 2
              · rw [c2, if_pos rfl, s2]; omega
              · rw [if_neg c2]
  funext c
  rw [ml c]
  by_cases c12 : c = 12
  · subst c12
    rw [nrm_12, if_neg (by decide), if_neg (by decide)]
    unfold shO
    rw [if_neg (by omega), nrm_12]
  by_cases c1 : c = 1
  · subst c1
    rw [if_pos rfl, nrm_ne (by decide) (by decide)]
    unfold amI
    rw [uZ_ne (by decide), uZ_eq]
  rw [if_neg c1]
  by_cases c2 : c = 2
  · subst c2
    rw [if_pos rfl, nrm_ne (by decide) (by decide)]
    unfold amI
    rw [uZ_eq]
  rw [if_neg c2]
  by_cases c3 : c = 3
  · subst c3
    have e : shO base (nrm i) 3 = nrm i 3 := by unfold shO; rw [if_neg (by omega)]
    have a3 : amI fb base lb i zI 3 = i 3 := by
      unfold amI
      rw [uZ_ne (by decide), uZ_ne (by decide), uZ_ne (by decide), uZ_ne (by decide)]
      unfold aiP aiO
      rw [if_pos (by decide), if_pos (by decide)]
    rw [e]
    unfold nrm
    rw [a0, a11, a3]
  rw [nrm_ne c3 c12]
  have am : amI fb base lb i zI c = if c = 0 then i 0 else if c = 11 then i 11 else if 3 ≤ c ∧ c < 11 then aiO base i c else 0 := by
    by_cases c0 : c = 0
    · rw [c0, a0, if_pos rfl]
    · rw [if_neg c0]
      by_cases c11 : c = 11
      · rw [c11, a11, if_pos rfl]
      · rw [if_neg c11]
        unfold amI
        rw [uZ_ne c2, uZ_ne c1, uZ_ne c0, uZ_ne c11]
        unfold aiP
        by_cases q : 3 ≤ c ∧ c < 11
        · rw [if_pos (by omega), if_pos q]
        · rw [if_neg (by omega), if_neg q]; rfl
  rw [am]
  by_cases ev : c = 4 ∨ c = 6 ∨ c = 8 ∨ c = 10
  · rw [if_neg (by omega), if_neg (by omega), if_pos (by omega)]
    unfold aiO shO
    rw [if_neg (by omega), nrm_ne (c := c) c3 c12]
    have e : rgB i (c - 1) ↔ nrm i (c - 1) = 2 := by
      unfold rgB
      by_cases c4 : c = 4
      · subst c4
        rw [show (4 : Int) - 1 = 3 by decide]
        by_cases b : i 0 = 12 ∧ (i 11 = 1 ∨ i 11 = 2)
        · have z := h.2.2.2.2 b.1 b.2
          rw [nrm_b b.1 b.2]
          exact ⟨fun y => y.elim (fun y => by omega) (fun y => y.2.2), fun y => Or.inr ⟨rfl, b.1, y⟩⟩
        · have e3 : nrm i 3 = i 3 := by
            unfold nrm
            rw [if_neg (fun q => b q.2), if_neg (by decide)]
          rw [e3]
          exact ⟨fun y => y.elim id (fun y => absurd ⟨y.2.1, Or.inr y.2.2⟩ b), Or.inl⟩
      · rw [nrm_ne (c := c - 1) (by omega) (by omega)]
        exact ⟨fun y => y.elim id (fun y => by omega), Or.inl⟩
    by_cases r : rgB i (c - 1)
    · rw [dI_y r, if_pos ⟨ev, e.mp r⟩]
    · rw [dI_n r, if_neg (fun z => r (e.mpr z.2))]
  · have e : shO base (nrm i) c = i c := by
      unfold shO
      rw [if_neg (fun z => ev z.1), nrm_ne c3 c12]
    rw [e]
    by_cases c0 : c = 0
    · rw [if_pos c0, c0]
    · rw [if_neg c0]
      by_cases c11 : c = 11
      · rw [if_pos c11, c11]
      · rw [if_neg c11]
        by_cases q : 3 ≤ c ∧ c < 11
        · rw [if_pos q]
          unfold aiO
          rw [if_pos (by omega)]
        · rw [if_neg q, hz c (by omega)]
end
section
set_option maxHeartbeats 1000000 in
set_option maxRecDepth 20000 in
theorem l_X1_acts_x_4 (d : Nat) {T : CT} {σ : MS} {a : Nat} {x : Nat} {n : Int} {W : Int → It} {post : Option Value → CT → MS → Prop} (h_a : OB T a 1) (hw : WT T σ) (hn0 : 0 ≤ n) (hx : σ.2.1 5 a = (x : Int)) (hn : σ.2.1 6 a = n) (hW : cW σ x n = W) (hN : n ≤ 200) (hwok : WOK W n) (hx_33 : ∀ (i1 : Int) (i2 : Int) , (0 ≤ i1 ∧ i1 ≤ 200) → (0 ≤ i2 ∧ i2 ≤ 200) → (True) → (i2 ≤ n ∧ 0 ≤ i1 ∧ i1 ≤ i2) → (i1 = cN (fun j => W j 0 ≤ 10) 0 n.toNat) → Tn (d + 2) m_X1_acts 33 T σ [(0, .ref a), (1, .int (iI i1)), (2, .int (iI i2))] [] post) : ∀ (nq9 : Nat) (i1 : Int) (i2 : Int) , (0 ≤ i1 ∧ i1 ≤ 200) → (0 ≤ i2 ∧ i2 ≤ 200) → (i1 = cN (fun j => W j 0 ≤ 10) 0 i2.toNat) → (i2 ≤ n ∧ 0 ≤ i1 ∧ i1 ≤ i2) → (2147483700 - i2).toNat = nq9 → Tn (d + 2) m_X1_acts 4 T σ [(0, .ref a), (1, .int (iI i1)), (2, .int (iI i2))] [] post := by
  intro nq9
  induction nq9 using Nat.strongRecOn with
  | _ nq9 ih =>
    intro i1 i2 r_i1 r_i2 hA h2 hm
    refine tn_iload_n dX1_acts_4 rfl 2 rfl ?_
    refine tn_aload_n dX1_acts_5 rfl 0 rfl ?_
    refine tn_getI (ci := 1) (i := 1) (n := 6) (t := σ.2.1 6 a) dX1_acts_6 rfl lay_1 (by decide) fl1_33 h_a rfl rfl (rfl) ?_
    have g1 : ((0 : Int) ≤ σ.2.1 6 a ∧ σ.2.1 6 a ≤ 5000) ∧ ((T a).1 = 50 → σ.2.1 6 a ≤ 200) := wf_6 hw h_a
    have g1x := g1.2
    replace g1 := g1.1
    clear g1x
    refine tn_icmp_ge (tgt := 33) dX1_acts_9 (by decide) ⟨by omega, by omega⟩ ⟨by omega, by omega⟩ (fun h2 => ?_) (fun h2 => ?_)
    · exact tn_sub [0, 1, 2] rfl (hx_33 (i1) (i2) (by omega) (by omega) True.intro (by omega) (by rw [show n = i2 by omega]; exact hA))
    · refine tn_aload_n dX1_acts_12 rfl 0 rfl ?_
      refine tn_iload_n dX1_acts_13 rfl 2 rfl ?_
      refine tn_iconst dX1_acts_14 ?_
      obtain ⟨hl6, hk5a, hk5b⟩ := cel_of (wf_5 hw h_a) hx
      have hk5i : IA T x := by unfold IA; omega
      have hk5c : CELL T a x := ⟨hk5a, hk5b⟩
      clear hk5a hk5b
      refine tn_callV (M := m_X1_acts) (pc := 15) (ix := 86) (ci := 1) (M' := m_X1_get) (As := [.int (iI i2), .int (iI 0)]) (rest := []) dX1_acts_15 ok_X1_get im_X1_get se_X1_get ml1_86 np_X1_get rfl rfl h_a rfl (Nat.le_of_ble_eq_true rfl) (Nat.le_of_ble_eq_true rfl) rfl (k_X1_get_x (d) (T := T) (σ := σ) (a := a) (k := i2) (c := 0) (x := x) (n := n) (W := W) h_a (by omega) (by decide) hw (hx) (hn) hW (by omega) (by omega)) (fun r7 T9 σ8 gt10 hp => ?_)
      obtain ⟨v13, rfl, rfl, rfl, f11, f12⟩ := hp
      clear gt10
      show Tn _ _ 18 T σ [(0, .ref a), (1, .int (iI i1)), (2, .int (iI i2))] [.int (iI v13)] _
      refine tn_callSN (M := m_X1_acts) (pc := 18) (ix := 107) (M' := m_X11_isAct) (As := [.int (iI v13)]) (rest := []) dX1_acts_18 ok_X11_isAct stt_X11_isAct nl1_107 np_X11_isAct rfl (Nat.le_of_ble_eq_true rfl) (Nat.le_of_ble_eq_true rfl) rfl (k_X11_isAct_x (d) (T := T) (σ := σ) (k := v13) (by omega) hw ) (fun r14 T16 σ15 gt17 hp => ?_)
      obtain ⟨v20, rfl, rfl, rfl, f18, f19⟩ := hp
      clear gt17
      show Tn _ _ 21 T σ [(0, .ref a), (1, .int (iI i1)), (2, .int (iI i2))] [.int (iI v20)] _
      refine tn_if_eq (tgt := 27) dX1_acts_21 (by decide) ⟨by omega, by omega⟩ (fun h21 => ?_) (fun h21 => ?_)
      · refine tn_iinc (q0 := 2) (L' := [(2, .int (iI (i2 + 1))), (0, .ref a), (1, .int (iI i1))]) dX1_acts_27 rfl (by decide) rfl ?_
        refine tn_goto (tgt := 4) dX1_acts_30 (by decide) ?_
        exact tn_sub [1, 2, 0] rfl (ih _ (by omega) (i1) (i2 + 1) (by omega) (by omega) (by have z := hwok i2 (by omega) (by omega); have z0 := z.1; have e1 : ¬ W i2 0 ≤ 10 := (by omega); rw [cN_n (P := fun j => W j 0 ≤ 10) (k := i2) (by omega) e1, ← hA]) (by omega) rfl)
      · refine tn_iinc (q0 := 1) (L' := [(1, .int (iI (i1 + 1))), (0, .ref a), (2, .int (iI i2))]) dX1_acts_24 rfl (by decide) rfl ?_
        refine tn_iinc (q0 := 2) (L' := [(2, .int (iI (i2 + 1))), (1, .int (iI (i1 + 1))), (0, .ref a)]) dX1_acts_27 rfl (by decide) rfl ?_
        refine tn_goto (tgt := 4) dX1_acts_30 (by decide) ?_
        exact tn_sub [2, 1, 0] rfl (ih _ (by omega) (i1 + 1) (i2 + 1) (by omega) (by omega) (by have z := hwok i2 (by omega) (by omega); have z0 := z.1; have e1 : W i2 0 ≤ 10 := (by omega); rw [cN_y (P := fun j => W j 0 ≤ 10) (k := i2) (by omega) e1, ← hA]) (by omega) rfl)
set_option maxHeartbeats 1000000 in
set_option maxRecDepth 20000 in
theorem k_X1_acts_x (d : Nat) {T : CT} {σ : MS} {a : Nat} {x : Nat} {n : Int} {W : Int → It} (ha : OB T a 1) (hw : WT T σ) (hx : σ.2.1 5 a = (x : Int)) (hn : σ.2.1 6 a = n) (hW : cW σ x n = W) (hN : n ≤ 200) (hwok : WOK W n) : Tn (d + 2) m_X1_acts 0 T σ [(0, .ref a)] [] (fun ro T2 σ2 => ∃ v : Int, ro = some (.int (iI v)) ∧ T = T2 ∧ σ = σ2 ∧ (0 ≤ v ∧ v ≤ 200) ∧ (v = cN (fun j => W j 0 ≤ 10) 0 n.toNat)) := by
  have h6 := wf_6 hw ha
  refine tn_iconst dX1_acts_0 ?_
  refine tn_istore_n (L' := [(1, .int (iI 0)), (0, .ref a)]) dX1_acts_1 rfl (by decide) rfl ?_
  refine tn_iconst dX1_acts_2 ?_
  refine tn_istore_n (L' := [(2, .int (iI 0)), (1, .int (iI 0)), (0, .ref a)]) dX1_acts_3 rfl (by decide) rfl ?_
  refine tn_sub [2, 1, 0] rfl (l_X1_acts_x_4 (d) (T := T) (σ := σ) (a := a) (x := x) (n := n) (W := (W)) ha hw (by omega) (hx) (hn) hW hN hwok (fun i11 i22 r8 r9 f10 f11 f12 => ?_) _ (0) (0) (by omega) (by omega) cN_z.symm (by omega) rfl)
  show Tn _ _ 33 T σ [(0, .ref a), (1, .int (iI i11)), (2, .int (iI i22))] [] _
  refine tn_iload_n dX1_acts_33 rfl 1 rfl ?_
  exact tn_iret rfl dX1_acts_34 ⟨_, rfl, rfl, rfl, by omega, f12⟩
end
section
set_option maxHeartbeats 1000000 in
set_option maxRecDepth 20000 in
theorem l_X1_greatestLabel_x_4 (d : Nat) {T : CT} {σ : MS} {a : Nat} {x : Nat} {n : Int} {W : Int → It} {post : Option Value → CT → MS → Prop} (h_a : OB T a 1) (hw : WT T σ) (hn0 : 0 ≤ n) (hx : σ.2.1 5 a = (x : Int)) (hn : σ.2.1 6 a = n) (hW : cW σ x n = W) (hN : n ≤ 200) (hlb : ∀ k, 0 ≤ k → k < n → (W k 0 = 8 ∨ W k 0 = 9 ∨ W k 0 = 13) → 0 ≤ W k 1 ∧ W k 1 ≤ 5000) (hx_54 : ∀ (i1 : Int) (i2 : Int) , (-1 ≤ i1 ∧ i1 ≤ 5000) → (0 ≤ i2 ∧ i2 ≤ 200) → (True) → (i2 ≤ n ∧ -1 ≤ i1 ∧ i1 ≤ 5000) → (mxV (lbV (vW W) n) (i1 + 1)) → Tn (d + 2) m_X1_greatestLabel 54 T σ [(0, .ref a), (1, .int (iI i1)), (2, .int (iI i2))] [] post) : ∀ (nq9 : Nat) (i1 : Int) (i2 : Int) , (-1 ≤ i1 ∧ i1 ≤ 5000) → (0 ≤ i2 ∧ i2 ≤ 200) → (UBQ (LBS W i2) i1) → (i2 ≤ n ∧ -1 ≤ i1 ∧ i1 ≤ 5000) → (2147483700 - i2).toNat = nq9 → Tn (d + 2) m_X1_greatestLabel 4 T σ [(0, .ref a), (1, .int (iI i1)), (2, .int (iI i2))] [] post := by
  intro nq9
  induction nq9 using Nat.strongRecOn with
  | _ nq9 ih =>
    intro i1 i2 r_i1 r_i2 hG h2 hm
    refine tn_iload_n dX1_greatestLabel_4 rfl 2 rfl ?_
    refine tn_aload_n dX1_greatestLabel_5 rfl 0 rfl ?_
    refine tn_getI (ci := 1) (i := 1) (n := 6) (t := σ.2.1 6 a) dX1_greatestLabel_6 rfl lay_1 (by decide) fl1_33 h_a rfl rfl (rfl) ?_
    have g1 : ((0 : Int) ≤ σ.2.1 6 a ∧ σ.2.1 6 a ≤ 5000) ∧ ((T a).1 = 50 → σ.2.1 6 a ≤ 200) := wf_6 hw h_a
    have g1x := g1.2
    replace g1 := g1.1
    clear g1x
    refine tn_icmp_ge (tgt := 54) dX1_greatestLabel_9 (by decide) ⟨by omega, by omega⟩ ⟨by omega, by omega⟩ (fun h2 => ?_) (fun h2 => ?_)
    · exact tn_sub [0, 1, 2] rfl (hx_54 (i1) (i2) (by omega) (by omega) True.intro (by omega) (LBS.fin hG (by omega)))
    · refine tn_aload_n dX1_greatestLabel_12 rfl 0 rfl ?_
      refine tn_iload_n dX1_greatestLabel_13 rfl 2 rfl ?_
      refine tn_iconst dX1_greatestLabel_14 ?_
      obtain ⟨hl6, hk5a, hk5b⟩ := cel_of (wf_5 hw h_a) hx
      have hk5i : IA T x := by unfold IA; omega
      have hk5c : CELL T a x := ⟨hk5a, hk5b⟩
      clear hk5a hk5b
      refine tn_callV (M := m_X1_greatestLabel) (pc := 15) (ix := 86) (ci := 1) (M' := m_X1_get) (As := [.int (iI i2), .int (iI 0)]) (rest := []) dX1_greatestLabel_15 ok_X1_get im_X1_get se_X1_get ml1_86 np_X1_get rfl rfl h_a rfl (Nat.le_of_ble_eq_true rfl) (Nat.le_of_ble_eq_true rfl) rfl (k_X1_get_x (d) (T := T) (σ := σ) (a := a) (k := i2) (c := 0) (x := x) (n := n) (W := W) h_a (by omega) (by decide) hw (hx) (hn) hW (by omega) (by omega)) (fun r7 T9 σ8 gt10 hp => ?_)
      obtain ⟨v13, rfl, rfl, rfl, f11, f12⟩ := hp
      clear gt10
      show Tn _ _ 18 T σ [(0, .ref a), (1, .int (iI i1)), (2, .int (iI i2))] [.int (iI v13)] _
      refine tn_istore_n (L' := [(3, .int (iI v13)), (0, .ref a), (1, .int (iI i1)), (2, .int (iI i2))]) dX1_greatestLabel_18 rfl (by decide) rfl ?_
      refine tn_iload_n dX1_greatestLabel_19 rfl 0 rfl ?_
      refine tn_bipush dX1_greatestLabel_20 (by decide) ?_
      refine tn_icmp_eq (tgt := 37) dX1_greatestLabel_22 (by decide) ⟨by omega, by omega⟩ ⟨by decide, by decide⟩ (fun h14 => ?_) (fun h14 => ?_)
      · refine tn_iload_n dX1_greatestLabel_37 rfl 2 rfl ?_
        refine tn_aload_n dX1_greatestLabel_38 rfl 1 rfl ?_
        refine tn_iload_n dX1_greatestLabel_39 rfl 3 rfl ?_
        refine tn_iconst dX1_greatestLabel_40 ?_
        refine tn_callV (M := m_X1_greatestLabel) (pc := 41) (ix := 86) (ci := 1) (M' := m_X1_get) (As := [.int (iI i2), .int (iI 1)]) (rest := [.int (iI i1)]) dX1_greatestLabel_41 ok_X1_get im_X1_get se_X1_get ml1_86 np_X1_get rfl rfl h_a rfl (Nat.le_of_ble_eq_true rfl) (Nat.le_of_ble_eq_true rfl) rfl (k_X1_get_x (d) (T := T) (σ := σ) (a := a) (k := i2) (c := 1) (x := x) (n := n) (W := W) h_a (by omega) (by decide) hw (hx) (hn) hW (by omega) (by omega)) (fun r15 T17 σ16 gt18 hp => ?_)
        obtain ⟨v21, rfl, rfl, rfl, f19, f20⟩ := hp
        clear gt18
        show Tn _ _ 44 T σ [(3, .int (iI v13)), (0, .ref a), (1, .int (iI i1)), (2, .int (iI i2))] [.int (iI v21), .int (iI i1)] _
        have hl9 := hlb i2 (by omega) (by omega) (by omega)
        refine tn_mmax (x := i1) (y := v21) dX1_greatestLabel_44 mlm1_63 stM_max iniM cdM_max (by omega) (Nat.le_of_ble_eq_true rfl) ⟨by omega, by omega⟩ ⟨by omega, by omega⟩ (fun z22 g23 => ?_)
        refine tn_istore_n (L' := [(1, .int (iI z22)), (3, .int (iI v13)), (0, .ref a), (2, .int (iI i2))]) dX1_greatestLabel_47 rfl (by decide) rfl ?_
        refine tn_iinc (q0 := 3) (L' := [(2, .int (iI (i2 + 1))), (1, .int (iI z22)), (3, .int (iI v13)), (0, .ref a)]) dX1_greatestLabel_48 rfl (by decide) rfl ?_
        refine tn_goto (tgt := 4) dX1_greatestLabel_51 (by decide) ?_
        exact tn_sub [3, 1, 0] rfl (ih _ (by omega) (z22) (i2 + 1) (by omega) (by omega) (LBS.yes hG (by omega) (by omega) f20 (by have z := hlb i2 (by omega) (by omega) (by omega); omega) (by omega)) (by have z := hlb i2 (by omega) (by omega) (by omega); omega) rfl)
      · refine tn_iload_n dX1_greatestLabel_25 rfl 0 rfl ?_
        refine tn_bipush dX1_greatestLabel_26 (by decide) ?_
        refine tn_icmp_eq (tgt := 37) dX1_greatestLabel_28 (by decide) ⟨by omega, by omega⟩ ⟨by decide, by decide⟩ (fun h24 => ?_) (fun h24 => ?_)
        · refine tn_iload_n dX1_greatestLabel_37 rfl 2 rfl ?_
          refine tn_aload_n dX1_greatestLabel_38 rfl 1 rfl ?_
          refine tn_iload_n dX1_greatestLabel_39 rfl 3 rfl ?_
          refine tn_iconst dX1_greatestLabel_40 ?_
          refine tn_callV (M := m_X1_greatestLabel) (pc := 41) (ix := 86) (ci := 1) (M' := m_X1_get) (As := [.int (iI i2), .int (iI 1)]) (rest := [.int (iI i1)]) dX1_greatestLabel_41 ok_X1_get im_X1_get se_X1_get ml1_86 np_X1_get rfl rfl h_a rfl (Nat.le_of_ble_eq_true rfl) (Nat.le_of_ble_eq_true rfl) rfl (k_X1_get_x (d) (T := T) (σ := σ) (a := a) (k := i2) (c := 1) (x := x) (n := n) (W := W) h_a (by omega) (by decide) hw (hx) (hn) hW (by omega) (by omega)) (fun r25 T27 σ26 gt28 hp => ?_)
          obtain ⟨v31, rfl, rfl, rfl, f29, f30⟩ := hp
          clear gt28
          show Tn _ _ 44 T σ [(3, .int (iI v13)), (0, .ref a), (1, .int (iI i1)), (2, .int (iI i2))] [.int (iI v31), .int (iI i1)] _
          have hl9 := hlb i2 (by omega) (by omega) (by omega)
          refine tn_mmax (x := i1) (y := v31) dX1_greatestLabel_44 mlm1_63 stM_max iniM cdM_max (by omega) (Nat.le_of_ble_eq_true rfl) ⟨by omega, by omega⟩ ⟨by omega, by omega⟩ (fun z32 g33 => ?_)
          refine tn_istore_n (L' := [(1, .int (iI z32)), (3, .int (iI v13)), (0, .ref a), (2, .int (iI i2))]) dX1_greatestLabel_47 rfl (by decide) rfl ?_
          refine tn_iinc (q0 := 3) (L' := [(2, .int (iI (i2 + 1))), (1, .int (iI z32)), (3, .int (iI v13)), (0, .ref a)]) dX1_greatestLabel_48 rfl (by decide) rfl ?_
          refine tn_goto (tgt := 4) dX1_greatestLabel_51 (by decide) ?_
          exact tn_sub [3, 1, 0] rfl (ih _ (by omega) (z32) (i2 + 1) (by omega) (by omega) (LBS.yes hG (by omega) (by omega) f30 (by have z := hlb i2 (by omega) (by omega) (by omega); omega) (by omega)) (by have z := hlb i2 (by omega) (by omega) (by omega); omega) rfl)
        · refine tn_iload_n dX1_greatestLabel_31 rfl 0 rfl ?_
          refine tn_bipush dX1_greatestLabel_32 (by decide) ?_
          refine tn_icmp_ne (tgt := 48) dX1_greatestLabel_34 (by decide) ⟨by omega, by omega⟩ ⟨by decide, by decide⟩ (fun h34 => ?_) (fun h34 => ?_)
          · refine tn_iinc (q0 := 3) (L' := [(2, .int (iI (i2 + 1))), (3, .int (iI v13)), (0, .ref a), (1, .int (iI i1))]) dX1_greatestLabel_48 rfl (by decide) rfl ?_
            refine tn_goto (tgt := 4) dX1_greatestLabel_51 (by decide) ?_
            exact tn_sub [2, 3, 0] rfl (ih _ (by omega) (i1) (i2 + 1) (by omega) (by omega) (LBS.no hG (by omega)) (by omega) rfl)
          · refine tn_iload_n dX1_greatestLabel_37 rfl 2 rfl ?_
            refine tn_aload_n dX1_greatestLabel_38 rfl 1 rfl ?_
            refine tn_iload_n dX1_greatestLabel_39 rfl 3 rfl ?_
            refine tn_iconst dX1_greatestLabel_40 ?_
            refine tn_callV (M := m_X1_greatestLabel) (pc := 41) (ix := 86) (ci := 1) (M' := m_X1_get) (As := [.int (iI i2), .int (iI 1)]) (rest := [.int (iI i1)]) dX1_greatestLabel_41 ok_X1_get im_X1_get se_X1_get ml1_86 np_X1_get rfl rfl h_a rfl (Nat.le_of_ble_eq_true rfl) (Nat.le_of_ble_eq_true rfl) rfl (k_X1_get_x (d) (T := T) (σ := σ) (a := a) (k := i2) (c := 1) (x := x) (n := n) (W := W) h_a (by omega) (by decide) hw (hx) (hn) hW (by omega) (by omega)) (fun r35 T37 σ36 gt38 hp => ?_)
            obtain ⟨v41, rfl, rfl, rfl, f39, f40⟩ := hp
            clear gt38
            show Tn _ _ 44 T σ [(3, .int (iI v13)), (0, .ref a), (1, .int (iI i1)), (2, .int (iI i2))] [.int (iI v41), .int (iI i1)] _
            have hl9 := hlb i2 (by omega) (by omega) (by omega)
            refine tn_mmax (x := i1) (y := v41) dX1_greatestLabel_44 mlm1_63 stM_max iniM cdM_max (by omega) (Nat.le_of_ble_eq_true rfl) ⟨by omega, by omega⟩ ⟨by omega, by omega⟩ (fun z42 g43 => ?_)
            refine tn_istore_n (L' := [(1, .int (iI z42)), (3, .int (iI v13)), (0, .ref a), (2, .int (iI i2))]) dX1_greatestLabel_47 rfl (by decide) rfl ?_
            refine tn_iinc (q0 := 3) (L' := [(2, .int (iI (i2 + 1))), (1, .int (iI z42)), (3, .int (iI v13)), (0, .ref a)]) dX1_greatestLabel_48 rfl (by decide) rfl ?_
            refine tn_goto (tgt := 4) dX1_greatestLabel_51 (by decide) ?_
            exact tn_sub [3, 1, 0] rfl (ih _ (by omega) (z42) (i2 + 1) (by omega) (by omega) (LBS.yes hG (by omega) (by omega) f40 (by have z := hlb i2 (by omega) (by omega) (by omega); omega) (by omega)) (by have z := hlb i2 (by omega) (by omega) (by omega); omega) rfl)
set_option maxHeartbeats 1000000 in
set_option maxRecDepth 20000 in
theorem k_X1_greatestLabel_x (d : Nat) {T : CT} {σ : MS} {a : Nat} {x : Nat} {n : Int} {W : Int → It} (ha : OB T a 1) (hw : WT T σ) (hx : σ.2.1 5 a = (x : Int)) (hn : σ.2.1 6 a = n) (hW : cW σ x n = W) (hN : n ≤ 200) (hlb : ∀ k, 0 ≤ k → k < n → (W k 0 = 8 ∨ W k 0 = 9 ∨ W k 0 = 13) → 0 ≤ W k 1 ∧ W k 1 ≤ 5000) : Tn (d + 2) m_X1_greatestLabel 0 T σ [(0, .ref a)] [] (fun ro T2 σ2 => ∃ v : Int, ro = some (.int (iI v)) ∧ T = T2 ∧ σ = σ2 ∧ (-1 ≤ v ∧ v ≤ 5000) ∧ (mxV (lbV (vW W) n) (v + 1))) := by
  have h6 := wf_6 hw ha
  refine tn_iconst dX1_greatestLabel_0 ?_
  refine tn_istore_n (L' := [(1, .int (iI (-1))), (0, .ref a)]) dX1_greatestLabel_1 rfl (by decide) rfl ?_
  refine tn_iconst dX1_greatestLabel_2 ?_
  refine tn_istore_n (L' := [(2, .int (iI 0)), (1, .int (iI (-1))), (0, .ref a)]) dX1_greatestLabel_3 rfl (by decide) rfl ?_
  refine tn_sub [2, 1, 0] rfl (l_X1_greatestLabel_x_4 (d) (T := T) (σ := σ) (a := a) (x := x) (n := n) (W := (W)) ha hw (by omega) (hx) (hn) hW hN hlb (fun i11 i22 r8 r9 f10 f11 f12 => ?_) _ (-1) (0) (by omega) (by omega) (UBQ.nil (fun g ⟨i, a, b, _⟩ => by omega)) (by omega) rfl)
  show Tn _ _ 54 T σ [(0, .ref a), (1, .int (iI i11)), (2, .int (iI i22))] [] _
  refine tn_iload_n dX1_greatestLabel_54 rfl 1 rfl ?_
  exact tn_iret rfl dX1_greatestLabel_55 ⟨_, rfl, rfl, rfl, by omega, f12⟩
end
section
set_option maxHeartbeats 1000000 in
set_option maxRecDepth 20000 in
theorem l_X4_isSmall_x_2 (d : Nat) {T : CT} {σ : MS} {a : Nat} {g : Nat} {y : Nat} {ng : Int} {Wg : Int → It} {post : Option Value → CT → MS → Prop} (h_a : OB T a 4) (hw : WT T σ) (hg : σ.2.1 26 a = (g : Int)) (hy : σ.2.1 5 g = (y : Int)) (hng : σ.2.1 6 g = ng) (hWg : cW σ y ng = Wg) (hN : ng ≤ 200) (hwok : WOK Wg ng) (hx_27 : ∀ (i1 : Int) , (0 ≤ i1 ∧ i1 ≤ 200) → (True) → (∃ j, 0 ≤ j ∧ j < ng ∧ Wg j 0 = 10) → Tn (d + 3) m_X4_isSmall 27 T σ [(0, .ref a), (1, .int (iI i1))] [] post) (hx_35 : ∀ (i1 : Int) , (0 ≤ i1 ∧ i1 ≤ 200) → (True) → (∀ j, 0 ≤ j → j < ng → Wg j 0 ≠ 10) → Tn (d + 3) m_X4_isSmall 35 T σ [(0, .ref a), (1, .int (iI i1))] [] post) : ∀ (nq9 : Nat) (i1 : Int) , (0 ≤ i1 ∧ i1 ≤ 200) → (∀ j, 0 ≤ j → j < i1 → Wg j 0 ≠ 10) → (2147483700 - i1).toNat = nq9 → Tn (d + 3) m_X4_isSmall 2 T σ [(0, .ref a), (1, .int (iI i1))] [] post := by
  intro nq9
  induction nq9 using Nat.strongRecOn with
  | _ nq9 ih =>
    intro i1 r_i1 hS hm
    refine tn_iload_n dX4_isSmall_2 rfl 1 rfl ?_
    refine tn_aload_n dX4_isSmall_3 rfl 0 rfl ?_
    have hk3 : (T g).1 = 50 := ob_of ((wf_26 hw h_a).resolve_left (by omega)) hg
    have hk3o : OB T g 1 := ⟨by omega, by rw [hk3]; rfl, by omega⟩
    refine tn_getR (ci := 4) (i := 3) (n := 26) (x := g) dX4_isSmall_4 rfl lay_4 (by decide) fl4_33 h_a rfl rfl (hg) ?_
    refine tn_getI (ci := 1) (i := 1) (n := 6) (t := σ.2.1 6 g) dX4_isSmall_7 rfl lay_1 (by decide) fl4_23 hk3o rfl rfl (rfl) ?_
    have g5 : ((0 : Int) ≤ σ.2.1 6 g ∧ σ.2.1 6 g ≤ 5000) ∧ ((T g).1 = 50 → σ.2.1 6 g ≤ 200) := wf_6 hw hk3o
    have g5x := g5.2
    replace g5 := g5.1
    have g5x := g5x hk3
    refine tn_icmp_ge (tgt := 35) dX4_isSmall_10 (by decide) ⟨by omega, by omega⟩ ⟨by omega, by omega⟩ (fun h6 => ?_) (fun h6 => ?_)
    · exact tn_sub [0, 1] rfl (hx_35 (i1) (by omega) True.intro (fun j a b => hS j a (by omega)))
    · refine tn_aload_n dX4_isSmall_13 rfl 0 rfl ?_
      refine tn_getR (ci := 4) (i := 3) (n := 26) (x := g) dX4_isSmall_14 rfl lay_4 (by decide) fl4_33 h_a rfl rfl (hg) ?_
      refine tn_iload_n dX4_isSmall_17 rfl 1 rfl ?_
      refine tn_iconst dX4_isSmall_18 ?_
      obtain ⟨hl10, hk9a, hk9b⟩ := cel_of (wf_5 hw hk3o) hy
      have hk9 : (T y).1 = 1 := hk9a (by omega)
      clear hk9a hk9b
      have hk9i : IA T y := by unfold IA; omega
      refine tn_callV (M := m_X4_isSmall) (pc := 19) (ix := 29) (ci := 1) (M' := m_X1_get) (As := [.int (iI i1), .int (iI 0)]) (rest := []) dX4_isSmall_19 ok_X1_get im_X1_get se_X1_get ml4_29 np_X1_get rfl rfl hk3o rfl (Nat.le_of_ble_eq_true rfl) (Nat.le_of_ble_eq_true rfl) rfl (k_X1_get_x (d + 1) (T := T) (σ := σ) (a := g) (k := i1) (c := 0) (x := y) (n := ng) (W := Wg) hk3o (by omega) (by decide) hw (hy) (hng) hWg (by omega) (by omega)) (fun r11 T13 σ12 gt14 hp => ?_)
      obtain ⟨v17, rfl, rfl, rfl, f15, f16⟩ := hp
      clear gt14
      show Tn _ _ 22 T σ [(0, .ref a), (1, .int (iI i1))] [.int (iI v17)] _
      refine tn_bipush dX4_isSmall_22 (by decide) ?_
      refine tn_icmp_ne (tgt := 29) dX4_isSmall_24 (by decide) ⟨by omega, by omega⟩ ⟨by decide, by decide⟩ (fun h18 => ?_) (fun h18 => ?_)
      · refine tn_iinc (q0 := 1) (L' := [(1, .int (iI (i1 + 1))), (0, .ref a)]) dX4_isSmall_29 rfl (by decide) rfl ?_
        refine tn_goto (tgt := 2) dX4_isSmall_32 (by decide) ?_
        exact tn_sub [1, 0] rfl (ih _ (by omega) (i1 + 1) (by omega) (fun j a b => (Classical.em (j = i1)).elim (fun e => by rw [e]; omega) (fun e => hS j a (by omega))) rfl)
      · exact tn_sub [0, 1] rfl (hx_27 (i1) (by omega) True.intro ⟨i1, by omega, by omega, by omega⟩)
set_option maxHeartbeats 1000000 in
set_option maxRecDepth 20000 in
theorem k_X4_isSmall_x (d : Nat) {T : CT} {σ : MS} {a : Nat} {g : Nat} {y : Nat} {ng : Int} {Wg : Int → It} (ha : OB T a 4) (hw : WT T σ) (hg : σ.2.1 26 a = (g : Int)) (hy : σ.2.1 5 g = (y : Int)) (hng : σ.2.1 6 g = ng) (hWg : cW σ y ng = Wg) (hN : ng ≤ 200) (hwok : WOK Wg ng) : Tn (d + 3) m_X4_isSmall 0 T σ [(0, .ref a)] [] (fun ro T2 σ2 => ∃ v : Int, ro = some (.int (iI v)) ∧ T = T2 ∧ σ = σ2 ∧ (v = 0 ∨ v = 1) ∧ ((v = 1 ∧ (∀ j, 0 ≤ j → j < ng → Wg j 0 ≠ 10) ∧ cN (fun j => Wg j 0 ≤ 10) 0 ng.toNat ≤ 20) ∨ (v = 0 ∧ ¬ ((∀ j, 0 ≤ j → j < ng → Wg j 0 ≠ 10) ∧ cN (fun j => Wg j 0 ≤ 10) 0 ng.toNat ≤ 20)))) := by
  refine tn_iconst dX4_isSmall_0 ?_
  refine tn_istore_n (L' := [(1, .int (iI 0)), (0, .ref a)]) dX4_isSmall_1 rfl (by decide) rfl ?_
  refine tn_sub [1, 0] rfl (l_X4_isSmall_x_2 (d) (T := T) (σ := σ) (a := a) (g := g) (y := y) (ng := ng) (Wg := (Wg)) ha hw (hg) (hy) (hng) hWg hN hwok (fun i11 r7 f8 f9 => ?_) (fun i110 r16 f17 f18 => ?_) _ (0) (by omega) (fun j a b => by omega) rfl)
  · show Tn _ _ 27 T σ [(0, .ref a), (1, .int (iI i11))] [] _
    refine tn_iconst dX4_isSmall_27 ?_
    exact tn_zret (v := 0) rfl (by decide) dX4_isSmall_28 ⟨_, rfl, rfl, rfl, by omega, (Or.inr ⟨rfl, fun z => f9.elim (fun j e => z.1 j e.1 e.2.1 e.2.2)⟩)⟩
  · show Tn _ _ 35 T σ [(0, .ref a), (1, .int (iI i110))] [] _
    refine tn_aload_n dX4_isSmall_35 rfl 0 rfl ?_
    have hk21 : (T g).1 = 50 := ob_of ((wf_26 hw ha).resolve_left (by omega)) hg
    have hk21o : OB T g 1 := ⟨by omega, by rw [hk21]; rfl, by omega⟩
    refine tn_getR (ci := 4) (i := 3) (n := 26) (x := g) dX4_isSmall_36 rfl lay_4 (by decide) fl4_33 ha rfl rfl (hg) ?_
    obtain ⟨hl26, hk25a, hk25b⟩ := cel_of (wf_5 hw hk21o) hy
    have hk25 : (T y).1 = 1 := hk25a (by omega)
    clear hk25a hk25b
    have hk25i : IA T y := by unfold IA; omega
    refine tn_callV (M := m_X4_isSmall) (pc := 39) (ix := 44) (ci := 1) (M' := m_X1_acts) (As := []) (rest := []) dX4_isSmall_39 ok_X1_acts im_X1_acts se_X1_acts ml4_44 np_X1_acts rfl rfl hk21o rfl (Nat.le_of_ble_eq_true rfl) (Nat.le_of_ble_eq_true rfl) rfl (k_X1_acts_x (d) (T := T) (σ := σ) (a := g) (x := y) (n := ng) (W := Wg) hk21o hw (hy) (hng) hWg (by omega) (by omega)) (fun r27 T29 σ28 gt30 hp => ?_)
    obtain ⟨v33, rfl, rfl, rfl, f31, f32⟩ := hp
    clear gt30
    show Tn _ _ 42 T σ [(0, .ref a), (1, .int (iI i110))] [.int (iI v33)] _
    refine tn_bipush dX4_isSmall_42 (by decide) ?_
    refine tn_icmp_gt (tgt := 51) dX4_isSmall_44 (by decide) ⟨by omega, by omega⟩ ⟨by decide, by decide⟩ (fun h34 => ?_) (fun h34 => ?_)
    · refine tn_iconst dX4_isSmall_51 ?_
      exact tn_zret (v := 0) rfl (by decide) dX4_isSmall_52 ⟨_, rfl, rfl, rfl, by omega, (Or.inr ⟨rfl, fun z => by have z2 := z.2; rw [← f32] at z2; omega⟩)⟩
    · refine tn_iconst dX4_isSmall_47 ?_
      refine tn_goto (tgt := 52) dX4_isSmall_48 (by decide) ?_
      exact tn_zret (v := 1) rfl (by decide) dX4_isSmall_52 ⟨_, rfl, rfl, rfl, by omega, (Or.inl ⟨rfl, f18, by rw [← f32]; omega⟩)⟩
end
section
set_option maxHeartbeats 1000000 in
set_option maxRecDepth 20000 in
theorem l_X4_needsNought_x_19 (d : Nat) {T : CT} {σ : MS} {a : Nat} {c1 : Int} {g : Nat} {fl : Nat} {xa : Nat} {La : Int → Int64} {P : Int} {yh : Nat} {Rg : Int → Int} {post : Option Value → CT → MS → Prop} (h_a : OB T a 4) (r_c1 : 0 ≤ c1 ∧ c1 ≤ 191) (hw : WT T σ) (hg : σ.2.1 26 a = (g : Int)) (hfl : σ.2.1 23 a = (fl : Int)) (hxa : σ.2.1 18 fl = (xa : Int)) (hLa : σ.2.2 xa = La) (hP : σ.2.1 8 g = P) (hyh : σ.2.1 15 g = (yh : Int)) (hRg : σ.2.1 (1000 + yh) = Rg) (hx_43 : ∀ (i2 : Int) , (0 ≤ i2 ∧ i2 ≤ 4) → (True) → (pmC Rg P c1) → Tn (d + 3) m_X4_needsNought 43 T σ [(0, .ref a), (1, .int (iI c1)), (2, .int (iI i2))] [] post) (hx_51 : ∀ (i2 : Int) , (0 ≤ i2 ∧ i2 ≤ 4) → (True) → (¬ pmC Rg P c1) → Tn (d + 3) m_X4_needsNought 51 T σ [(0, .ref a), (1, .int (iI c1)), (2, .int (iI i2))] [] post) : ∀ (nq9 : Nat) (i2 : Int) , (0 ≤ i2 ∧ i2 ≤ 4) → (∀ j, 0 ≤ j → j < i2 → Rg j ≠ c1) → (2147483700 - i2).toNat = nq9 → Tn (d + 3) m_X4_needsNought 19 T σ [(0, .ref a), (1, .int (iI c1)), (2, .int (iI i2))] [] post := by
  intro nq9
  induction nq9 using Nat.strongRecOn with
  | _ nq9 ih =>
    intro i2 r_i2 hS hm
    refine tn_iload_n dX4_needsNought_19 rfl 2 rfl ?_
    refine tn_aload_n dX4_needsNought_20 rfl 0 rfl ?_
    have hk3 : (T g).1 = 50 := ob_of ((wf_26 hw h_a).resolve_left (by omega)) hg
    have hk3o : OB T g 1 := ⟨by omega, by rw [hk3]; rfl, by omega⟩
    refine tn_getR (ci := 4) (i := 3) (n := 26) (x := g) dX4_needsNought_21 rfl lay_4 (by decide) fl4_33 h_a rfl rfl (hg) ?_
    refine tn_getI (ci := 1) (i := 3) (n := 8) (t := σ.2.1 8 g) dX4_needsNought_24 rfl lay_1 (by decide) fl4_108 hk3o rfl rfl (rfl) ?_
    have g5 : ((0 : Int) ≤ σ.2.1 8 g ∧ σ.2.1 8 g ≤ 4) := wf_8 hw hk3o
    refine tn_icmp_ge (tgt := 51) dX4_needsNought_27 (by decide) ⟨by omega, by omega⟩ ⟨by omega, by omega⟩ (fun h6 => ?_) (fun h6 => ?_)
    · exact tn_sub [0, 1, 2] rfl (hx_51 (i2) (by omega) True.intro (fun ⟨j, a, b, e⟩ => hS j a (by omega) e))
    · refine tn_aload_n dX4_needsNought_30 rfl 0 rfl ?_
      refine tn_getR (ci := 4) (i := 3) (n := 26) (x := g) dX4_needsNought_31 rfl lay_4 (by decide) fl4_33 h_a rfl rfl (hg) ?_
      refine tn_iconst dX4_needsNought_34 ?_
      refine tn_iload_n dX4_needsNought_35 rfl 2 rfl ?_
      obtain ⟨hk9, hl10⟩ : AR T yh 1 144 144 := ar_of (wf_15 hw hk3o) hyh
      have hk9i : IA T yh := by unfold IA; omega
      refine tn_callV (M := m_X4_needsNought) (pc := 36) (ix := 122) (ci := 1) (M' := m_X1_homeOf) (As := [.int (iI 0), .int (iI i2)]) (rest := []) dX4_needsNought_36 ok_X1_homeOf im_X1_homeOf se_X1_homeOf ml4_122 np_X1_homeOf rfl rfl hk3o rfl (Nat.le_of_ble_eq_true rfl) (Nat.le_of_ble_eq_true rfl) rfl (k_X1_homeOf_x (d) (T := T) (σ := σ) (a := g) (f := 0) (m := i2) (xh := yh) (Rh := Rg) hk3o (by decide) (by omega) hw (hyh) hRg (by omega)) (fun r11 T13 σ12 gt14 hp => ?_)
      obtain ⟨v17, rfl, rfl, rfl, f15, f16⟩ := hp
      clear gt14
      show Tn _ _ 39 T σ [(0, .ref a), (1, .int (iI c1)), (2, .int (iI i2))] [.int (iI v17)] _
      refine tn_iload_n dX4_needsNought_39 rfl 1 rfl ?_
      refine tn_icmp_ne (tgt := 45) dX4_needsNought_40 (by decide) ⟨by omega, by omega⟩ ⟨by omega, by omega⟩ (fun h18 => ?_) (fun h18 => ?_)
      · refine tn_iinc (q0 := 2) (L' := [(2, .int (iI (i2 + 1))), (0, .ref a), (1, .int (iI c1))]) dX4_needsNought_45 rfl (by decide) rfl ?_
        refine tn_goto (tgt := 19) dX4_needsNought_48 (by decide) ?_
        exact tn_sub [1, 2, 0] rfl (ih _ (by omega) (i2 + 1) (by omega) (fun j a b => (Classical.em (j = i2)).elim (fun e => by rw [e]; have z := f16; unfold ATQ at z; rw [show 12 * 0 + i2 = i2 by omega] at z; omega) (fun e => hS j a (by omega))) rfl)
      · exact tn_sub [0, 1, 2] rfl (hx_43 (i2) (by omega) True.intro ⟨i2, by omega, by omega, by have z := f16; unfold ATQ at z; rw [show 12 * 0 + i2 = i2 by omega] at z; omega⟩)
set_option maxHeartbeats 1000000 in
set_option maxRecDepth 20000 in
theorem k_X4_needsNought_x (d : Nat) {T : CT} {σ : MS} {a : Nat} {r : Int} {g : Nat} {fl : Nat} {xa : Nat} {La : Int → Int64} {P : Int} {yh : Nat} {Rg : Int → Int} (ha : OB T a 4) (h_r : -2147483648 ≤ r ∧ r ≤ 2147483647) (hw : WT T σ) (hg : σ.2.1 26 a = (g : Int)) (hfl : σ.2.1 23 a = (fl : Int)) (hxa : σ.2.1 18 fl = (xa : Int)) (hLa : σ.2.2 xa = La) (hP : σ.2.1 8 g = P) (hyh : σ.2.1 15 g = (yh : Int)) (hRg : σ.2.1 (1000 + yh) = Rg) (hr : 0 ≤ r ∧ r < 192) : Tn (d + 3) m_X4_needsNought 0 T σ [(0, .ref a), (1, .int (iI r))] [] (fun ro T2 σ2 => ∃ v : Int, ro = some (.int (iI v)) ∧ T = T2 ∧ σ = σ2 ∧ (v = 0 ∨ v = 1) ∧ ((v = 1 ∧ nnC La Rg P r) ∨ (v = 0 ∧ ¬ nnC La Rg P r))) := by
  refine tn_aload_n dX4_needsNought_0 rfl 0 rfl ?_
  have hk3 : (T fl).1 = 33 := ob_of (wf_23 hw ha) hfl
  have hk3o : OB T fl 3 := ⟨by omega, by rw [hk3]; rfl, by omega⟩
  refine tn_getR (ci := 4) (i := 0) (n := 23) (x := fl) dX4_needsNought_1 rfl lay_4 (by decide) fl4_15 ha rfl rfl (hfl) ?_
  obtain ⟨hk7, hl8⟩ : AR T xa 3 603 603 := ar_of (wf_18 hw hk3o) hxa
  refine tn_getR (ci := 3) (i := 0) (n := 18) (x := xa) dX4_needsNought_4 rfl lay_3 (by decide) fl4_114 hk3o rfl rfl (hxa) ?_
  refine tn_iconst dX4_needsNought_7 ?_
  refine tn_iload_n dX4_needsNought_8 rfl 1 rfl ?_
  refine tn_callSN (M := m_X4_needsNought) (pc := 9) (ix := 118) (M' := m_X11_has) (As := [.ref xa, .int (iI 0), .int (iI r)]) (rest := []) dX4_needsNought_9 ok_X11_has stt_X11_has nl4_118 np_X11_has rfl (Nat.le_of_ble_eq_true rfl) (Nat.le_of_ble_eq_true rfl) rfl (k_X11_has_x (d) (T := T) (σ := σ) (x := xa) (k := 0) (r := r) (L := La) hk7 (by omega) (by decide) (by omega) hw hLa ⟨by omega, by omega⟩) (fun r9 T11 σ10 gt12 hp => ?_)
  obtain ⟨v15, rfl, rfl, rfl, f13, f14⟩ := hp
  clear gt12
  show Tn _ _ 12 T σ [(0, .ref a), (1, .int (iI r))] [.int (iI v15)] _
  refine tn_if_ne (tgt := 17) dX4_needsNought_12 (by decide) ⟨by omega, by omega⟩ (fun h16 => ?_) (fun h16 => ?_)
  · refine tn_iconst dX4_needsNought_17 ?_
    refine tn_istore_n (L' := [(2, .int (iI 0)), (0, .ref a), (1, .int (iI r))]) dX4_needsNought_18 rfl (by decide) rfl ?_
    refine tn_sub [1, 2, 0] rfl (l_X4_needsNought_x_19 (d) (T := T) (σ := σ) (a := a) (c1 := r) (g := g) (fl := fl) (xa := xa) (La := (La)) (P := P) (yh := yh) (Rg := (Rg)) ha (by omega) hw (hg) (hfl) (hxa) hLa (hP) (hyh) hRg (fun i217 r23 f24 f25 => ?_) (fun i226 r32 f33 f34 => ?_) _ (0) (by omega) (fun j a b => by omega) rfl)
    · show Tn _ _ 43 T σ [(0, .ref a), (1, .int (iI r)), (2, .int (iI i217))] [] _
      refine tn_iconst dX4_needsNought_43 ?_
      exact tn_zret (v := 0) rfl (by decide) dX4_needsNought_44 ⟨_, rfl, rfl, rfl, by omega, (Or.inr ⟨rfl, fun z => z.2 f25⟩)⟩
    · show Tn _ _ 51 T σ [(0, .ref a), (1, .int (iI r)), (2, .int (iI i226))] [] _
      refine tn_iconst dX4_needsNought_51 ?_
      exact tn_zret (v := 1) rfl (by decide) dX4_needsNought_52 ⟨_, rfl, rfl, rfl, by omega, (Or.inl ⟨rfl, f14.mp (by omega), f34⟩)⟩
  · refine tn_iconst dX4_needsNought_15 ?_
    exact tn_zret (v := 0) rfl (by decide) dX4_needsNought_16 ⟨_, rfl, rfl, rfl, by omega, (Or.inr ⟨rfl, fun z => absurd (f14.mpr z.1) (by omega)⟩)⟩
end
section
set_option maxHeartbeats 1000000 in
set_option maxRecDepth 20000 in
theorem l_X4_rowsNeeded_x_28 (d : Nat) {T : CT} {σ : MS} {a : Nat} {g : Nat} {y : Nat} {ng : Int} {Wg : Int → It} {Ng : Int} {fl : Nat} {xa : Nat} {La : Int → Int64} {P : Int} {yh : Nat} {Rg : Int → Int} {post : Option Value → CT → MS → Prop} (h_a : OB T a 4) (hw : WT T σ) (hn0 : 0 ≤ ng) (hg : σ.2.1 26 a = (g : Int)) (hy : σ.2.1 5 g = (y : Int)) (hng : σ.2.1 6 g = ng) (hWg : cW σ y ng = Wg) (hNg : σ.2.1 7 g = Ng) (hfl : σ.2.1 23 a = (fl : Int)) (hxa : σ.2.1 18 fl = (xa : Int)) (hLa : σ.2.2 xa = La) (hP : σ.2.1 8 g = P) (hyh : σ.2.1 15 g = (yh : Int)) (hRg : σ.2.1 (1000 + yh) = Rg) (hN : ng ≤ 200) (hx_67 : ∀ (i1 : Int) (i2 : Int) , (0 ≤ i1 ∧ i1 ≤ 419) → (0 ≤ i2 ∧ i2 ≤ 200) → (True) → (0 ≤ Ng ∧ Ng ≤ 12 ∧ 0 ≤ P ∧ P ≤ 4) → (i1 = 3 + ng + Ng + P + cN (fun j => Wg j 0 = 7) 0 (ng : Int).toNat + cN (nnC La Rg P) 0 (0 : Int).toNat) → Tn (d + 4) m_X4_rowsNeeded 67 T σ [(0, .ref a), (1, .int (iI i1)), (2, .int (iI i2))] [] post) : ∀ (nq9 : Nat) (i1 : Int) (i2 : Int) , (0 ≤ i1 ∧ i1 ≤ 419) → (0 ≤ i2 ∧ i2 ≤ 200) → (i1 = 3 + ng + Ng + P + cN (fun j => Wg j 0 = 7) 0 (i2 : Int).toNat + cN (nnC La Rg P) 0 (0 : Int).toNat) → (i1 ≤ 219 + i2 ∧ i2 ≤ ng ∧ 0 ≤ Ng ∧ Ng ≤ 12 ∧ 0 ≤ P ∧ P ≤ 4) → (2147483700 - i2).toNat = nq9 → Tn (d + 4) m_X4_rowsNeeded 28 T σ [(0, .ref a), (1, .int (iI i1)), (2, .int (iI i2))] [] post := by
  intro nq9
  induction nq9 using Nat.strongRecOn with
  | _ nq9 ih =>
    intro i1 i2 r_i1 r_i2 hR_ h2 hm
    refine tn_iload_n dX4_rowsNeeded_28 rfl 2 rfl ?_
    refine tn_aload_n dX4_rowsNeeded_29 rfl 0 rfl ?_
    have hk3 : (T g).1 = 50 := ob_of ((wf_26 hw h_a).resolve_left (by omega)) hg
    have hk3o : OB T g 1 := ⟨by omega, by rw [hk3]; rfl, by omega⟩
    refine tn_getR (ci := 4) (i := 3) (n := 26) (x := g) dX4_rowsNeeded_30 rfl lay_4 (by decide) fl4_33 h_a rfl rfl (hg) ?_
    refine tn_getI (ci := 1) (i := 1) (n := 6) (t := σ.2.1 6 g) dX4_rowsNeeded_33 rfl lay_1 (by decide) fl4_23 hk3o rfl rfl (rfl) ?_
    have g5 : ((0 : Int) ≤ σ.2.1 6 g ∧ σ.2.1 6 g ≤ 5000) ∧ ((T g).1 = 50 → σ.2.1 6 g ≤ 200) := wf_6 hw hk3o
    have g5x := g5.2
    replace g5 := g5.1
    have g5x := g5x hk3
    refine tn_icmp_ge (tgt := 67) dX4_rowsNeeded_36 (by decide) ⟨by omega, by omega⟩ ⟨by omega, by omega⟩ (fun h6 => ?_) (fun h6 => ?_)
    · exact tn_sub [0, 1, 2] rfl (hx_67 (i1) (i2) (by omega) (by omega) True.intro (by omega) (by have z := hR_; rw [show i2 = ng by omega] at z; exact z))
    · refine tn_iload_n dX4_rowsNeeded_39 rfl 1 rfl ?_
      refine tn_aload_n dX4_rowsNeeded_40 rfl 0 rfl ?_
      refine tn_getR (ci := 4) (i := 3) (n := 26) (x := g) dX4_rowsNeeded_41 rfl lay_4 (by decide) fl4_33 h_a rfl rfl (hg) ?_
      refine tn_iload_n dX4_rowsNeeded_44 rfl 2 rfl ?_
      refine tn_iconst dX4_rowsNeeded_45 ?_
      obtain ⟨hl10, hk9a, hk9b⟩ := cel_of (wf_5 hw hk3o) hy
      have hk9 : (T y).1 = 1 := hk9a (by omega)
      clear hk9a hk9b
      have hk9i : IA T y := by unfold IA; omega
      refine tn_callV (M := m_X4_rowsNeeded) (pc := 46) (ix := 29) (ci := 1) (M' := m_X1_get) (As := [.int (iI i2), .int (iI 0)]) (rest := [.int (iI i1)]) dX4_rowsNeeded_46 ok_X1_get im_X1_get se_X1_get ml4_29 np_X1_get rfl rfl hk3o rfl (Nat.le_of_ble_eq_true rfl) (Nat.le_of_ble_eq_true rfl) rfl (k_X1_get_x (d + 2) (T := T) (σ := σ) (a := g) (k := i2) (c := 0) (x := y) (n := ng) (W := Wg) hk3o (by omega) (by decide) hw (hy) (hng) hWg (by omega) (by omega)) (fun r11 T13 σ12 gt14 hp => ?_)
      obtain ⟨v17, rfl, rfl, rfl, f15, f16⟩ := hp
      clear gt14
      show Tn _ _ 49 T σ [(0, .ref a), (1, .int (iI i1)), (2, .int (iI i2))] [.int (iI v17), .int (iI i1)] _
      refine tn_bipush dX4_rowsNeeded_49 (by decide) ?_
      refine tn_icmp_ne (tgt := 58) dX4_rowsNeeded_51 (by decide) ⟨by omega, by omega⟩ ⟨by decide, by decide⟩ (fun h18 => ?_) (fun h18 => ?_)
      · refine tn_iconst dX4_rowsNeeded_58 ?_
        refine tn_iadd dX4_rowsNeeded_59 ?_
        refine tn_istore_n (L' := [(1, .int (iI (i1 + 0))), (0, .ref a), (2, .int (iI i2))]) dX4_rowsNeeded_60 rfl (by decide) rfl ?_
        refine tn_iinc (q0 := 2) (L' := [(2, .int (iI (i2 + 1))), (1, .int (iI (i1 + 0))), (0, .ref a)]) dX4_rowsNeeded_61 rfl (by decide) rfl ?_
        refine tn_goto (tgt := 28) dX4_rowsNeeded_64 (by decide) ?_
        exact tn_sub [2, 1, 0] rfl (ih _ (by omega) (i1 + 0) (i2 + 1) (by omega) (by omega) (by rw [cN_n (P := fun j => Wg j 0 = 7) (k := i2) (by omega) (by omega)]; omega) (by omega) rfl)
      · refine tn_iconst dX4_rowsNeeded_54 ?_
        refine tn_goto (tgt := 59) dX4_rowsNeeded_55 (by decide) ?_
        refine tn_iadd dX4_rowsNeeded_59 ?_
        refine tn_istore_n (L' := [(1, .int (iI (i1 + 1))), (0, .ref a), (2, .int (iI i2))]) dX4_rowsNeeded_60 rfl (by decide) rfl ?_
        refine tn_iinc (q0 := 2) (L' := [(2, .int (iI (i2 + 1))), (1, .int (iI (i1 + 1))), (0, .ref a)]) dX4_rowsNeeded_61 rfl (by decide) rfl ?_
        refine tn_goto (tgt := 28) dX4_rowsNeeded_64 (by decide) ?_
        exact tn_sub [2, 1, 0] rfl (ih _ (by omega) (i1 + 1) (i2 + 1) (by omega) (by omega) (by rw [cN_y (P := fun j => Wg j 0 = 7) (k := i2) (by omega) (by omega)]; omega) (by omega) rfl)
set_option maxHeartbeats 1000000 in
set_option maxRecDepth 20000 in
theorem l_X4_rowsNeeded_x_69 (d : Nat) {T : CT} {σ : MS} {a : Nat} {g : Nat} {y : Nat} {ng : Int} {Wg : Int → It} {Ng : Int} {fl : Nat} {xa : Nat} {La : Int → Int64} {P : Int} {yh : Nat} {Rg : Int → Int} {post : Option Value → CT → MS → Prop} (h_a : OB T a 4) (hw : WT T σ) (hg : σ.2.1 26 a = (g : Int)) (hy : σ.2.1 5 g = (y : Int)) (hng : σ.2.1 6 g = ng) (hWg : cW σ y ng = Wg) (hNg : σ.2.1 7 g = Ng) (hfl : σ.2.1 23 a = (fl : Int)) (hxa : σ.2.1 18 fl = (xa : Int)) (hLa : σ.2.2 xa = La) (hP : σ.2.1 8 g = P) (hyh : σ.2.1 15 g = (yh : Int)) (hRg : σ.2.1 (1000 + yh) = Rg) (hN : ng ≤ 200) (hx_98 : ∀ (i1 : Int) (i2 : Int) , (0 ≤ i1 ∧ i1 ≤ 611) → (0 ≤ i2 ∧ i2 ≤ 192) → (True) → (True) → (i1 = 3 + ng + Ng + P + cN (fun j => Wg j 0 = 7) 0 (ng : Int).toNat + cN (nnC La Rg P) 0 (192 : Int).toNat) → Tn (d + 4) m_X4_rowsNeeded 98 T σ [(0, .ref a), (1, .int (iI i1)), (2, .int (iI i2))] [] post) : ∀ (nq9 : Nat) (i1 : Int) (i2 : Int) , (0 ≤ i1 ∧ i1 ≤ 611) → (0 ≤ i2 ∧ i2 ≤ 192) → (i1 = 3 + ng + Ng + P + cN (fun j => Wg j 0 = 7) 0 (ng : Int).toNat + cN (nnC La Rg P) 0 (i2 : Int).toNat) → (i1 ≤ 419 + i2 ∧ 0 ≤ Ng ∧ Ng ≤ 12 ∧ 0 ≤ P ∧ P ≤ 4) → (2147483700 - i2).toNat = nq9 → Tn (d + 4) m_X4_rowsNeeded 69 T σ [(0, .ref a), (1, .int (iI i1)), (2, .int (iI i2))] [] post := by
  intro nq9
  induction nq9 using Nat.strongRecOn with
  | _ nq9 ih =>
    intro i1 i2 r_i1 r_i2 hR_ h2 hm
    refine tn_iload_n dX4_rowsNeeded_69 rfl 2 rfl ?_
    refine tn_sipush dX4_rowsNeeded_70 (by decide) ?_
    refine tn_icmp_ge (tgt := 98) dX4_rowsNeeded_73 (by decide) ⟨by omega, by omega⟩ ⟨by decide, by decide⟩ (fun h1 => ?_) (fun h1 => ?_)
    · exact tn_sub [0, 1, 2] rfl (hx_98 (i1) (i2) (by omega) (by omega) True.intro True.intro (by have z := hR_; rw [show i2 = 192 by omega] at z; exact z))
    · refine tn_iload_n dX4_rowsNeeded_76 rfl 1 rfl ?_
      refine tn_aload_n dX4_rowsNeeded_77 rfl 0 rfl ?_
      refine tn_iload_n dX4_rowsNeeded_78 rfl 2 rfl ?_
      have hk4 : (T g).1 = 50 := ob_of ((wf_26 hw h_a).resolve_left (by omega)) hg
      have hk4o : OB T g 1 := ⟨by omega, by rw [hk4]; rfl, by omega⟩
      have hk8 : (T fl).1 = 33 := ob_of (wf_23 hw h_a) hfl
      have hk8o : OB T fl 3 := ⟨by omega, by rw [hk8]; rfl, by omega⟩
      obtain ⟨hk12, hl13⟩ : AR T xa 3 603 603 := ar_of (wf_18 hw hk8o) hxa
      obtain ⟨hk16, hl17⟩ : AR T yh 1 144 144 := ar_of (wf_15 hw hk4o) hyh
      have hk16i : IA T yh := by unfold IA; omega
      refine tn_callV (M := m_X4_rowsNeeded) (pc := 79) (ix := 111) (ci := 4) (M' := m_X4_needsNought) (As := [.int (iI i2)]) (rest := [.int (iI i1)]) dX4_rowsNeeded_79 ok_X4_needsNought im_X4_needsNought se_X4_needsNought ml4_111 np_X4_needsNought rfl rfl h_a rfl (Nat.le_of_ble_eq_true rfl) (Nat.le_of_ble_eq_true rfl) rfl (k_X4_needsNought_x (d) (T := T) (σ := σ) (a := a) (r := i2) (g := g) (fl := fl) (xa := xa) (La := La) (P := P) (yh := yh) (Rg := Rg) h_a (by omega) hw (hg) (hfl) (hxa) hLa (hP) (hyh) hRg ⟨by omega, by omega⟩) (fun r18 T20 σ19 gt21 hp => ?_)
      obtain ⟨v24, rfl, rfl, rfl, f22, f23⟩ := hp
      clear gt21
      show Tn _ _ 82 T σ [(0, .ref a), (1, .int (iI i1)), (2, .int (iI i2))] [.int (iI v24), .int (iI i1)] _
      refine tn_if_eq (tgt := 89) dX4_rowsNeeded_82 (by decide) ⟨by omega, by omega⟩ (fun h25 => ?_) (fun h25 => ?_)
      · refine tn_iconst dX4_rowsNeeded_89 ?_
        refine tn_iadd dX4_rowsNeeded_90 ?_
        refine tn_istore_n (L' := [(1, .int (iI (i1 + 0))), (0, .ref a), (2, .int (iI i2))]) dX4_rowsNeeded_91 rfl (by decide) rfl ?_
        refine tn_iinc (q0 := 2) (L' := [(2, .int (iI (i2 + 1))), (1, .int (iI (i1 + 0))), (0, .ref a)]) dX4_rowsNeeded_92 rfl (by decide) rfl ?_
        refine tn_goto (tgt := 69) dX4_rowsNeeded_95 (by decide) ?_
        exact tn_sub [2, 1, 0] rfl (ih _ (by omega) (i1 + 0) (i2 + 1) (by omega) (by omega) (by rw [cN_n (P := nnC La Rg P) (k := i2) (by omega) (f23.resolve_left (fun q => absurd q.1 (by omega))).2]; omega) (by omega) rfl)
      · refine tn_iconst dX4_rowsNeeded_85 ?_
        refine tn_goto (tgt := 90) dX4_rowsNeeded_86 (by decide) ?_
        refine tn_iadd dX4_rowsNeeded_90 ?_
        refine tn_istore_n (L' := [(1, .int (iI (i1 + 1))), (0, .ref a), (2, .int (iI i2))]) dX4_rowsNeeded_91 rfl (by decide) rfl ?_
        refine tn_iinc (q0 := 2) (L' := [(2, .int (iI (i2 + 1))), (1, .int (iI (i1 + 1))), (0, .ref a)]) dX4_rowsNeeded_92 rfl (by decide) rfl ?_
        refine tn_goto (tgt := 69) dX4_rowsNeeded_95 (by decide) ?_
        exact tn_sub [2, 1, 0] rfl (ih _ (by omega) (i1 + 1) (i2 + 1) (by omega) (by omega) (by rw [cN_y (P := nnC La Rg P) (k := i2) (by omega) (f23.resolve_right (fun q => absurd q.1 (by omega))).2]; omega) (by omega) rfl)
set_option maxHeartbeats 1000000 in
set_option maxRecDepth 20000 in
theorem k_X4_rowsNeeded_x (d : Nat) {T : CT} {σ : MS} {a : Nat} {g : Nat} {y : Nat} {ng : Int} {Wg : Int → It} {Ng : Int} {fl : Nat} {xa : Nat} {La : Int → Int64} {P : Int} {yh : Nat} {Rg : Int → Int} (ha : OB T a 4) (hw : WT T σ) (hg : σ.2.1 26 a = (g : Int)) (hy : σ.2.1 5 g = (y : Int)) (hng : σ.2.1 6 g = ng) (hWg : cW σ y ng = Wg) (hNg : σ.2.1 7 g = Ng) (hfl : σ.2.1 23 a = (fl : Int)) (hxa : σ.2.1 18 fl = (xa : Int)) (hLa : σ.2.2 xa = La) (hP : σ.2.1 8 g = P) (hyh : σ.2.1 15 g = (yh : Int)) (hRg : σ.2.1 (1000 + yh) = Rg) (hN : ng ≤ 200) : Tn (d + 4) m_X4_rowsNeeded 0 T σ [(0, .ref a)] [] (fun ro T2 σ2 => ∃ v : Int, ro = some (.int (iI v)) ∧ T = T2 ∧ σ = σ2 ∧ (0 ≤ v ∧ v ≤ 1000) ∧ (v = 3 + ng + Ng + P + cN (fun j => Wg j 0 = 7) 0 (ng : Int).toNat + cN (nnC La Rg P) 0 (192 : Int).toNat)) := by
  refine tn_iconst dX4_rowsNeeded_0 ?_
  refine tn_aload_n dX4_rowsNeeded_1 rfl 0 rfl ?_
  have hk3 : (T g).1 = 50 := ob_of ((wf_26 hw ha).resolve_left (by omega)) hg
  have hk3o : OB T g 1 := ⟨by omega, by rw [hk3]; rfl, by omega⟩
  refine tn_getR (ci := 4) (i := 3) (n := 26) (x := g) dX4_rowsNeeded_2 rfl lay_4 (by decide) fl4_33 ha rfl rfl (hg) ?_
  refine tn_getI (ci := 1) (i := 1) (n := 6) (t := σ.2.1 6 g) dX4_rowsNeeded_5 rfl lay_1 (by decide) fl4_23 hk3o rfl rfl (rfl) ?_
  have g5 : ((0 : Int) ≤ σ.2.1 6 g ∧ σ.2.1 6 g ≤ 5000) ∧ ((T g).1 = 50 → σ.2.1 6 g ≤ 200) := wf_6 hw hk3o
  have g5x := g5.2
  replace g5 := g5.1
  have g5x := g5x hk3
  refine tn_iadd dX4_rowsNeeded_8 ?_
  refine tn_aload_n dX4_rowsNeeded_9 rfl 0 rfl ?_
  refine tn_getR (ci := 4) (i := 3) (n := 26) (x := g) dX4_rowsNeeded_10 rfl lay_4 (by decide) fl4_33 ha rfl rfl (hg) ?_
  refine tn_getI (ci := 1) (i := 2) (n := 7) (t := σ.2.1 7 g) dX4_rowsNeeded_13 rfl lay_1 (by decide) fl4_105 hk3o rfl rfl (rfl) ?_
  have g6 : ((0 : Int) ≤ σ.2.1 7 g ∧ σ.2.1 7 g ≤ 12) := wf_7 hw hk3o
  refine tn_iadd dX4_rowsNeeded_16 ?_
  refine tn_aload_n dX4_rowsNeeded_17 rfl 0 rfl ?_
  refine tn_getR (ci := 4) (i := 3) (n := 26) (x := g) dX4_rowsNeeded_18 rfl lay_4 (by decide) fl4_33 ha rfl rfl (hg) ?_
  refine tn_getI (ci := 1) (i := 3) (n := 8) (t := σ.2.1 8 g) dX4_rowsNeeded_21 rfl lay_1 (by decide) fl4_108 hk3o rfl rfl (rfl) ?_
  have g7 : ((0 : Int) ≤ σ.2.1 8 g ∧ σ.2.1 8 g ≤ 4) := wf_8 hw hk3o
  refine tn_iadd dX4_rowsNeeded_24 ?_
  refine tn_istore_n (L' := [(1, .int (iI (((3 + (σ.2.1 6 g)) + (σ.2.1 7 g)) + (σ.2.1 8 g)))), (0, .ref a)]) dX4_rowsNeeded_25 rfl (by decide) rfl ?_
  refine tn_iconst dX4_rowsNeeded_26 ?_
  refine tn_istore_n (L' := [(2, .int (iI 0)), (1, .int (iI (((3 + (σ.2.1 6 g)) + (σ.2.1 7 g)) + (σ.2.1 8 g)))), (0, .ref a)]) dX4_rowsNeeded_27 rfl (by decide) rfl ?_
  refine tn_sub [2, 1, 0] rfl (l_X4_rowsNeeded_x_28 (d) (T := T) (σ := σ) (a := a) (g := g) (y := y) (ng := ng) (Wg := (Wg)) (Ng := Ng) (fl := fl) (xa := xa) (La := (La)) (P := P) (yh := yh) (Rg := (Rg)) ha hw (by omega) (hg) (hy) (hng) hWg (hNg) (hfl) (hxa) hLa (hP) (hyh) hRg hN (fun i18 i29 r15 r16 f17 f18 f19 => ?_) _ (((3 + (σ.2.1 6 g)) + (σ.2.1 7 g)) + (σ.2.1 8 g)) (0) (by omega) (by omega) (by rw [cN_z, cN_z]; omega) (by omega) rfl)
  show Tn _ _ 67 T σ [(0, .ref a), (1, .int (iI i18)), (2, .int (iI i29))] [] _
  refine tn_iconst dX4_rowsNeeded_67 ?_
  refine tn_istore_n (L' := [(2, .int (iI 0)), (0, .ref a), (1, .int (iI i18))]) dX4_rowsNeeded_68 rfl (by decide) rfl ?_
  refine tn_sub [1, 2, 0] rfl (l_X4_rowsNeeded_x_69 (d) (T := T) (σ := σ) (a := a) (g := g) (y := y) (ng := ng) (Wg := (Wg)) (Ng := Ng) (fl := fl) (xa := xa) (La := (La)) (P := P) (yh := yh) (Rg := (Rg)) ha hw (hg) (hy) (hng) hWg (hNg) (hfl) (hxa) hLa (hP) (hyh) hRg hN (fun i120 i221 r27 r28 f29 f30 f31 => ?_) _ (i18) (0) (by omega) (by omega) f19 (by omega) rfl)
  show Tn _ _ 98 T σ [(0, .ref a), (1, .int (iI i120)), (2, .int (iI i221))] [] _
  refine tn_iload_n dX4_rowsNeeded_98 rfl 1 rfl ?_
  exact tn_iret rfl dX4_rowsNeeded_99 ⟨_, rfl, rfl, rfl, by omega, f31⟩
end
section
set_option maxHeartbeats 1000000 in
set_option maxRecDepth 20000 in
theorem k_X4_shiftOf_x (d : Nat) {T : CT} {σ : MS} {a : Nat} {k : Int} {base : Int} {lb : Int} {fb : Int} (ha : OB T a 4) (h_k : -2147483648 ≤ k ∧ k ≤ 2147483647) (hw : WT T σ) (hbase : σ.2.1 27 a = base) (hlb : σ.2.1 28 a = lb) (hfb : σ.2.1 29 a = fb) (hk : 0 ≤ k) : Tn (d + 2) m_X4_shiftOf 0 T σ [(0, .ref a), (1, .int (iI k))] [] (fun ro T2 σ2 => ∃ v : Int, ro = some (.int (iI v)) ∧ T = T2 ∧ σ = σ2 ∧ (-2147483648 ≤ v ∧ v ≤ 2147483647) ∧ (v = shF fb base lb k)) := by
  refine tn_iload_n dX4_shiftOf_0 rfl 1 rfl ?_
  refine tn_callSN (M := m_X4_shiftOf) (pc := 1) (ix := 164) (M' := m_X11_isPure) (As := [.int (iI k)]) (rest := []) dX4_shiftOf_1 ok_X11_isPure stt_X11_isPure nl4_164 np_X11_isPure rfl (Nat.le_of_ble_eq_true rfl) (Nat.le_of_ble_eq_true rfl) rfl (k_X11_isPure_x (d) (T := T) (σ := σ) (k := k) (by omega) hw ) (fun r1 T3 σ2 gt4 hp => ?_)
  obtain ⟨v7, rfl, rfl, rfl, f5, f6⟩ := hp
  clear gt4
  show Tn _ _ 4 T σ [(0, .ref a), (1, .int (iI k))] [.int (iI v7)] _
  refine tn_if_eq (tgt := 12) dX4_shiftOf_4 (by decide) ⟨by omega, by omega⟩ (fun h8 => ?_) (fun h8 => ?_)
  · refine tn_iload_n dX4_shiftOf_12 rfl 1 rfl ?_
    refine tn_bipush dX4_shiftOf_13 (by decide) ?_
    refine tn_icmp_eq (tgt := 30) dX4_shiftOf_15 (by decide) ⟨by omega, by omega⟩ ⟨by decide, by decide⟩ (fun h9 => ?_) (fun h9 => ?_)
    · refine tn_aload_n dX4_shiftOf_30 rfl 0 rfl ?_
      refine tn_getI (ci := 4) (i := 5) (n := 28) (t := σ.2.1 28 a) dX4_shiftOf_31 rfl lay_4 (by decide) fl4_63 ha rfl rfl (rfl) ?_
      have g10 : ((-2147483648 : Int) ≤ σ.2.1 28 a ∧ σ.2.1 28 a ≤ 2147483647) := wf_28 hw ha
      exact tn_iret rfl dX4_shiftOf_34 ⟨_, rfl, rfl, rfl, by omega, by unfold shF; (repeat' split) <;> omega⟩
    · refine tn_iload_n dX4_shiftOf_18 rfl 1 rfl ?_
      refine tn_bipush dX4_shiftOf_19 (by decide) ?_
      refine tn_icmp_eq (tgt := 30) dX4_shiftOf_21 (by decide) ⟨by omega, by omega⟩ ⟨by decide, by decide⟩ (fun h11 => ?_) (fun h11 => ?_)
      · refine tn_aload_n dX4_shiftOf_30 rfl 0 rfl ?_
        refine tn_getI (ci := 4) (i := 5) (n := 28) (t := σ.2.1 28 a) dX4_shiftOf_31 rfl lay_4 (by decide) fl4_63 ha rfl rfl (rfl) ?_
        have g12 : ((-2147483648 : Int) ≤ σ.2.1 28 a ∧ σ.2.1 28 a ≤ 2147483647) := wf_28 hw ha
        exact tn_iret rfl dX4_shiftOf_34 ⟨_, rfl, rfl, rfl, by omega, by unfold shF; (repeat' split) <;> omega⟩
      · refine tn_iload_n dX4_shiftOf_24 rfl 1 rfl ?_
        refine tn_bipush dX4_shiftOf_25 (by decide) ?_
        refine tn_icmp_ne (tgt := 35) dX4_shiftOf_27 (by decide) ⟨by omega, by omega⟩ ⟨by decide, by decide⟩ (fun h13 => ?_) (fun h13 => ?_)
        · refine tn_iload_n dX4_shiftOf_35 rfl 1 rfl ?_
          refine tn_bipush dX4_shiftOf_36 (by decide) ?_
          refine tn_icmp_eq (tgt := 47) dX4_shiftOf_38 (by decide) ⟨by omega, by omega⟩ ⟨by decide, by decide⟩ (fun h14 => ?_) (fun h14 => ?_)
          · refine tn_aload_n dX4_shiftOf_47 rfl 0 rfl ?_
            refine tn_getI (ci := 4) (i := 6) (n := 29) (t := σ.2.1 29 a) dX4_shiftOf_48 rfl lay_4 (by decide) fl4_69 ha rfl rfl (rfl) ?_
            have g15 : ((-2147483648 : Int) ≤ σ.2.1 29 a ∧ σ.2.1 29 a ≤ 2147483647) := wf_29 hw ha
            refine tn_goto (tgt := 55) dX4_shiftOf_51 (by decide) ?_
            exact tn_iret rfl dX4_shiftOf_55 ⟨_, rfl, rfl, rfl, by omega, by unfold shF; (repeat' split) <;> omega⟩
          · refine tn_iload_n dX4_shiftOf_41 rfl 1 rfl ?_
            refine tn_bipush dX4_shiftOf_42 (by decide) ?_
            refine tn_icmp_ne (tgt := 54) dX4_shiftOf_44 (by decide) ⟨by omega, by omega⟩ ⟨by decide, by decide⟩ (fun h16 => ?_) (fun h16 => ?_)
            · refine tn_iconst dX4_shiftOf_54 ?_
              exact tn_iret rfl dX4_shiftOf_55 ⟨_, rfl, rfl, rfl, by omega, by unfold shF; (repeat' split) <;> omega⟩
            · refine tn_aload_n dX4_shiftOf_47 rfl 0 rfl ?_
              refine tn_getI (ci := 4) (i := 6) (n := 29) (t := σ.2.1 29 a) dX4_shiftOf_48 rfl lay_4 (by decide) fl4_69 ha rfl rfl (rfl) ?_
              have g17 : ((-2147483648 : Int) ≤ σ.2.1 29 a ∧ σ.2.1 29 a ≤ 2147483647) := wf_29 hw ha
              refine tn_goto (tgt := 55) dX4_shiftOf_51 (by decide) ?_
              exact tn_iret rfl dX4_shiftOf_55 ⟨_, rfl, rfl, rfl, by omega, by unfold shF; (repeat' split) <;> omega⟩
        · refine tn_aload_n dX4_shiftOf_30 rfl 0 rfl ?_
          refine tn_getI (ci := 4) (i := 5) (n := 28) (t := σ.2.1 28 a) dX4_shiftOf_31 rfl lay_4 (by decide) fl4_63 ha rfl rfl (rfl) ?_
          have g18 : ((-2147483648 : Int) ≤ σ.2.1 28 a ∧ σ.2.1 28 a ≤ 2147483647) := wf_28 hw ha
          exact tn_iret rfl dX4_shiftOf_34 ⟨_, rfl, rfl, rfl, by omega, by unfold shF; (repeat' split) <;> omega⟩
  · refine tn_aload_n dX4_shiftOf_7 rfl 0 rfl ?_
    refine tn_getI (ci := 4) (i := 4) (n := 27) (t := σ.2.1 27 a) dX4_shiftOf_8 rfl lay_4 (by decide) fl4_57 ha rfl rfl (rfl) ?_
    have g19 : ((-2147483648 : Int) ≤ σ.2.1 27 a ∧ σ.2.1 27 a ≤ 2147483647) := wf_27 hw ha
    exact tn_iret rfl dX4_shiftOf_11 ⟨_, rfl, rfl, rfl, by omega, by unfold shF; (repeat' split) <;> omega⟩
end
section
set_option maxHeartbeats 1000000 in
set_option maxRecDepth 20000 in
theorem k_X4_addRow_x (d : Nat) {T : CT} {σ : MS} {a : Nat} {p1 : Int} {p2 : Int} {p3 : Int} {h : Nat} {x : Nat} {n : Int} {W : Int → It} {rz : Int} (ha : OB T a 4) (h_p1 : -2147483648 ≤ p1 ∧ p1 ≤ 2147483647) (h_p2 : -2147483648 ≤ p2 ∧ p2 ≤ 2147483647) (h_p3 : -2147483648 ≤ p3 ∧ p3 ≤ 2147483647) (hw : WT T σ) (hh : σ.2.1 25 a = (h : Int)) (hx : σ.2.1 5 h = (x : Int)) (hn : σ.2.1 6 h = n) (hW : cW σ x n = W) (hrz : σ.2.1 32 a = rz) (hN : n ≤ 200) (hro : 0 ≤ rz ∧ rz < n) : Tn (d + 2) m_X4_addRow 0 T σ [(0, .ref a), (1, .int (iI p1)), (2, .int (iI p2)), (3, .int (iI p3))] [] (fun ro T2 σ2 => ro = none ∧ T = T2 ∧ WT T2 σ2 ∧ FrC T [32] σ σ2 ∧ (CHX [(32, a)] [x] [] σ σ2) ∧ (cW σ2 x n = uZ W rz (uZ (uZ (uZ (W rz) 0 p1) 1 p2) 2 p3)) ∧ (σ2.2.1 32 a = rz + 1)) := by
  refine tn_aload_n dX4_addRow_0 rfl 0 rfl ?_
  have hk3 : (T h).1 = 50 := ob_of ((wf_25 hw ha).resolve_left (by omega)) hh
  have hk3o : OB T h 1 := ⟨by omega, by rw [hk3]; rfl, by omega⟩
  refine tn_getR (ci := 4) (i := 2) (n := 25) (x := h) dX4_addRow_1 rfl lay_4 (by decide) fl4_19 ha rfl rfl (hh) ?_
  refine tn_aload_n dX4_addRow_4 rfl 0 rfl ?_
  refine tn_getI (ci := 4) (i := 9) (n := 32) (t := σ.2.1 32 a) dX4_addRow_5 rfl lay_4 (by decide) fl4_96 ha rfl rfl (rfl) ?_
  have g5 : ((-2147483648 : Int) ≤ σ.2.1 32 a ∧ σ.2.1 32 a ≤ 2147483647) := wf_32 hw ha
  refine tn_iconst dX4_addRow_8 ?_
  refine tn_iload_n dX4_addRow_9 rfl 1 rfl ?_
  obtain ⟨hl9, hk8a, hk8b⟩ := cel_of (wf_5 hw hk3o) hx
  have hk8 : (T x).1 = 1 := hk8a (by omega)
  clear hk8a hk8b
  have hk8i : IA T x := by unfold IA; omega
  refine tn_callV (M := m_X4_addRow) (pc := 10) (ix := 144) (ci := 1) (M' := m_X1_set) (As := [.int (iI (σ.2.1 32 a)), .int (iI 0), .int (iI p1)]) (rest := []) dX4_addRow_10 ok_X1_set im_X1_set se_X1_set ml4_144 np_X1_set rfl rfl hk3o rfl (Nat.le_of_ble_eq_true rfl) (Nat.le_of_ble_eq_true rfl) rfl (k_X1_set_x (d) (T := T) (σ := σ) (a := h) (k := σ.2.1 32 a) (c := 0) (y := p1) (x := x) (n := n) (W := W) hk3o (by omega) (by decide) (by omega) hw (hx) (hn) hW (by omega) (by omega) (by omega) (by omega)) (fun r10 T12 σ11 gt13 hp => ?_)
  obtain ⟨rfl, rfl, w17, F18, f14, f15⟩ := hp
  clear gt13
  show Tn _ _ 13 T σ11 [(0, .ref a), (1, .int (iI p1)), (2, .int (iI p2)), (3, .int (iI p3))] [] _
  refine tn_aload_n dX4_addRow_13 rfl 0 rfl ?_
  refine tn_getR (ci := 4) (i := 2) (n := 25) (x := h) dX4_addRow_14 rfl lay_4 (by decide) fl4_19 ha rfl rfl (rc_F F18 (Or.inl (by decide)) (by decide) (hh)) ?_
  refine tn_aload_n dX4_addRow_17 rfl 0 rfl ?_
  refine tn_getI (ci := 4) (i := 9) (n := 32) (t := σ.2.1 32 a) dX4_addRow_18 rfl lay_4 (by decide) fl4_96 ha rfl rfl (rc_F F18 (Or.inl (by decide)) (by decide) (rfl)) ?_
  refine tn_iconst dX4_addRow_21 ?_
  refine tn_iload_n dX4_addRow_22 rfl 2 rfl ?_
  refine tn_callV (M := m_X4_addRow) (pc := 23) (ix := 144) (ci := 1) (M' := m_X1_set) (As := [.int (iI (σ.2.1 32 a)), .int (iI 1), .int (iI p2)]) (rest := []) dX4_addRow_23 ok_X1_set im_X1_set se_X1_set ml4_144 np_X1_set rfl rfl hk3o rfl (Nat.le_of_ble_eq_true rfl) (Nat.le_of_ble_eq_true rfl) rfl (k_X1_set_x (d) (T := T) (σ := σ11) (a := h) (k := σ.2.1 32 a) (c := 1) (y := p2) (x := x) (n := n) (W := cW σ11 x n) hk3o (by omega) (by decide) (by omega) w17 (rc_F F18 (Or.inl (by decide)) (by decide) (hx)) (rc_F F18 (Or.inl (by decide)) (by decide) (hn)) rfl (by omega) (by omega) (by omega) (by omega)) (fun r19 T21 σ20 gt22 hp => ?_)
  obtain ⟨rfl, rfl, w26, F27, f23, f24⟩ := hp
  clear gt22
  show Tn _ _ 26 T σ20 [(0, .ref a), (1, .int (iI p1)), (2, .int (iI p2)), (3, .int (iI p3))] [] _
  refine tn_aload_n dX4_addRow_26 rfl 0 rfl ?_
  refine tn_getR (ci := 4) (i := 2) (n := 25) (x := h) dX4_addRow_27 rfl lay_4 (by decide) fl4_19 ha rfl rfl (rc_F F27 (Or.inl (by decide)) (by decide) (rc_F F18 (Or.inl (by decide)) (by decide) (hh))) ?_
  refine tn_aload_n dX4_addRow_30 rfl 0 rfl ?_
  refine tn_getI (ci := 4) (i := 9) (n := 32) (t := σ.2.1 32 a) dX4_addRow_31 rfl lay_4 (by decide) fl4_96 ha rfl rfl (rc_F F27 (Or.inl (by decide)) (by decide) (rc_F F18 (Or.inl (by decide)) (by decide) (rfl))) ?_
  refine tn_iconst dX4_addRow_34 ?_
  refine tn_iload_n dX4_addRow_35 rfl 3 rfl ?_
  refine tn_callV (M := m_X4_addRow) (pc := 36) (ix := 144) (ci := 1) (M' := m_X1_set) (As := [.int (iI (σ.2.1 32 a)), .int (iI 2), .int (iI p3)]) (rest := []) dX4_addRow_36 ok_X1_set im_X1_set se_X1_set ml4_144 np_X1_set rfl rfl hk3o rfl (Nat.le_of_ble_eq_true rfl) (Nat.le_of_ble_eq_true rfl) rfl (k_X1_set_x (d) (T := T) (σ := σ20) (a := h) (k := σ.2.1 32 a) (c := 2) (y := p3) (x := x) (n := n) (W := cW σ20 x n) hk3o (by omega) (by decide) (by omega) w26 (rc_F F27 (Or.inl (by decide)) (by decide) (rc_F F18 (Or.inl (by decide)) (by decide) (hx))) (rc_F F27 (Or.inl (by decide)) (by decide) (rc_F F18 (Or.inl (by decide)) (by decide) (hn))) rfl (by omega) (by omega) (by omega) (by omega)) (fun r28 T30 σ29 gt31 hp => ?_)
  obtain ⟨rfl, rfl, w35, F36, f32, f33⟩ := hp
  clear gt31
  show Tn _ _ 39 T σ29 [(0, .ref a), (1, .int (iI p1)), (2, .int (iI p2)), (3, .int (iI p3))] [] _
  refine tn_aload_n dX4_addRow_39 rfl 0 rfl ?_
  refine tn_dup dX4_addRow_40 rfl ?_
  refine tn_getI (ci := 4) (i := 9) (n := 32) (t := σ.2.1 32 a) dX4_addRow_41 rfl lay_4 (by decide) fl4_96 ha rfl rfl (rc_F F36 (Or.inl (by decide)) (by decide) (rc_F F27 (Or.inl (by decide)) (by decide) (rc_F F18 (Or.inl (by decide)) (by decide) (rfl)))) ?_
  refine tn_iconst dX4_addRow_44 ?_
  refine tn_iadd dX4_addRow_45 ?_
  refine tn_putV (ci := 4) (i := 9) (n := 32) (r := false) (v := (σ.2.1 32 a) + 1) tyX4 tyX4_ok nmX4 dX4_addRow_46 rfl lay_4 (by decide) fl4_96 rfl (tyX4_ok 9 (by decide)) rfl rfl rfl ha rfl rfl ?_
  have cv37 : cW (sA 32 a ((σ.2.1 32 a) + 1) σ29) x n = cW σ29 x n := (cW_fld (by decide)).trans (rfl)
  exact tn_vret rfl dX4_addRow_49 ⟨rfl, rfl, (w35.put (by decide) (by decide) (fo_32 (by omega))), ((((FrC.rfl.trans (FrC.sub F18 (by decide))).trans (FrC.sub F27 (by decide))).trans (FrC.sub F36 (by decide))).put (by decide) (by decide)), ((((CHX.rfl.trans (CHX.sub f14 (by simp) (by simp) (by simp))).trans (CHX.sub f23 (by simp) (by simp) (by simp))).trans (CHX.sub f32 (by simp) (by simp) (by simp))).fld (by simp) (by decide)), (by rw [cv37]; rw [← hrz]; exact it_s (it_s f15 f24) f33), ((show (sA 32 a ((σ.2.1 32 a) + 1) σ29).2.1 32 a = (σ.2.1 32 a) + 1 from ra_eq).trans (by omega))⟩
end
section
set_option maxHeartbeats 1000000 in
set_option maxRecDepth 20000 in
theorem k_X4_addCopy_x (d : Nat) {T : CT} {σ : MS} {a : Nat} {p1 : Int} {p2 : Int} {p3 : Int} {h : Nat} {x : Nat} {n : Int} {W : Int → It} {rz : Int} (ha : OB T a 4) (h_p1 : -2147483648 ≤ p1 ∧ p1 ≤ 2147483647) (h_p2 : -2147483648 ≤ p2 ∧ p2 ≤ 2147483647) (h_p3 : -2147483648 ≤ p3 ∧ p3 ≤ 2147483647) (hw : WT T σ) (hh : σ.2.1 25 a = (h : Int)) (hx : σ.2.1 5 h = (x : Int)) (hn : σ.2.1 6 h = n) (hW : cW σ x n = W) (hrz : σ.2.1 32 a = rz) (hN : n ≤ 200) (hro : 0 ≤ rz ∧ rz < n) : Tn (d + 3) m_X4_addCopy 0 T σ [(0, .ref a), (1, .int (iI p1)), (2, .int (iI p2)), (3, .int (iI p3))] [] (fun ro T2 σ2 => ro = none ∧ T = T2 ∧ WT T2 σ2 ∧ FrC T [32] σ σ2 ∧ (CHX [(32, a)] [x] [] σ σ2) ∧ (cW σ2 x n = uZ W rz (uZ (uZ (uZ (uZ (uZ (W rz) 3 p2) 4 p3) 0 0) 1 p1) 2 0)) ∧ (σ2.2.1 32 a = rz + 1)) := by
  refine tn_aload_n dX4_addCopy_0 rfl 0 rfl ?_
  have hk3 : (T h).1 = 50 := ob_of ((wf_25 hw ha).resolve_left (by omega)) hh
  have hk3o : OB T h 1 := ⟨by omega, by rw [hk3]; rfl, by omega⟩
  refine tn_getR (ci := 4) (i := 2) (n := 25) (x := h) dX4_addCopy_1 rfl lay_4 (by decide) fl4_19 ha rfl rfl (hh) ?_
  refine tn_aload_n dX4_addCopy_4 rfl 0 rfl ?_
  refine tn_getI (ci := 4) (i := 9) (n := 32) (t := σ.2.1 32 a) dX4_addCopy_5 rfl lay_4 (by decide) fl4_96 ha rfl rfl (rfl) ?_
  have g5 : ((-2147483648 : Int) ≤ σ.2.1 32 a ∧ σ.2.1 32 a ≤ 2147483647) := wf_32 hw ha
  refine tn_iconst dX4_addCopy_8 ?_
  refine tn_iload_n dX4_addCopy_9 rfl 2 rfl ?_
  obtain ⟨hl9, hk8a, hk8b⟩ := cel_of (wf_5 hw hk3o) hx
  have hk8 : (T x).1 = 1 := hk8a (by omega)
  clear hk8a hk8b
  have hk8i : IA T x := by unfold IA; omega
  refine tn_callV (M := m_X4_addCopy) (pc := 10) (ix := 144) (ci := 1) (M' := m_X1_set) (As := [.int (iI (σ.2.1 32 a)), .int (iI 3), .int (iI p2)]) (rest := []) dX4_addCopy_10 ok_X1_set im_X1_set se_X1_set ml4_144 np_X1_set rfl rfl hk3o rfl (Nat.le_of_ble_eq_true rfl) (Nat.le_of_ble_eq_true rfl) rfl (k_X1_set_x (d + 1) (T := T) (σ := σ) (a := h) (k := σ.2.1 32 a) (c := 3) (y := p2) (x := x) (n := n) (W := W) hk3o (by omega) (by decide) (by omega) hw (hx) (hn) hW (by omega) (by omega) (by omega) (by omega)) (fun r10 T12 σ11 gt13 hp => ?_)
  obtain ⟨rfl, rfl, w17, F18, f14, f15⟩ := hp
  clear gt13
  show Tn _ _ 13 T σ11 [(0, .ref a), (1, .int (iI p1)), (2, .int (iI p2)), (3, .int (iI p3))] [] _
  refine tn_aload_n dX4_addCopy_13 rfl 0 rfl ?_
  refine tn_getR (ci := 4) (i := 2) (n := 25) (x := h) dX4_addCopy_14 rfl lay_4 (by decide) fl4_19 ha rfl rfl (rc_F F18 (Or.inl (by decide)) (by decide) (hh)) ?_
  refine tn_aload_n dX4_addCopy_17 rfl 0 rfl ?_
  refine tn_getI (ci := 4) (i := 9) (n := 32) (t := σ.2.1 32 a) dX4_addCopy_18 rfl lay_4 (by decide) fl4_96 ha rfl rfl (rc_F F18 (Or.inl (by decide)) (by decide) (rfl)) ?_
  refine tn_iconst dX4_addCopy_21 ?_
  refine tn_iload_n dX4_addCopy_22 rfl 3 rfl ?_
  refine tn_callV (M := m_X4_addCopy) (pc := 23) (ix := 144) (ci := 1) (M' := m_X1_set) (As := [.int (iI (σ.2.1 32 a)), .int (iI 4), .int (iI p3)]) (rest := []) dX4_addCopy_23 ok_X1_set im_X1_set se_X1_set ml4_144 np_X1_set rfl rfl hk3o rfl (Nat.le_of_ble_eq_true rfl) (Nat.le_of_ble_eq_true rfl) rfl (k_X1_set_x (d + 1) (T := T) (σ := σ11) (a := h) (k := σ.2.1 32 a) (c := 4) (y := p3) (x := x) (n := n) (W := cW σ11 x n) hk3o (by omega) (by decide) (by omega) w17 (rc_F F18 (Or.inl (by decide)) (by decide) (hx)) (rc_F F18 (Or.inl (by decide)) (by decide) (hn)) rfl (by omega) (by omega) (by omega) (by omega)) (fun r19 T21 σ20 gt22 hp => ?_)
  obtain ⟨rfl, rfl, w26, F27, f23, f24⟩ := hp
  clear gt22
  show Tn _ _ 26 T σ20 [(0, .ref a), (1, .int (iI p1)), (2, .int (iI p2)), (3, .int (iI p3))] [] _
  refine tn_aload_n dX4_addCopy_26 rfl 0 rfl ?_
  refine tn_iconst dX4_addCopy_27 ?_
  refine tn_iload_n dX4_addCopy_28 rfl 1 rfl ?_
  refine tn_iconst dX4_addCopy_29 ?_
  refine tn_callV (M := m_X4_addCopy) (pc := 30) (ix := 148) (ci := 4) (M' := m_X4_addRow) (As := [.int (iI 0), .int (iI p1), .int (iI 0)]) (rest := []) dX4_addCopy_30 ok_X4_addRow im_X4_addRow se_X4_addRow ml4_148 np_X4_addRow rfl rfl ha rfl (Nat.le_of_ble_eq_true rfl) (Nat.le_of_ble_eq_true rfl) rfl (k_X4_addRow_x (d) (T := T) (σ := σ20) (a := a) (p1 := 0) (p2 := p1) (p3 := 0) (h := h) (x := x) (n := n) (W := cW σ20 x n) (rz := rz) ha (by decide) (by omega) (by decide) w26 (rc_F F27 (Or.inl (by decide)) (by decide) (rc_F F18 (Or.inl (by decide)) (by decide) (hh))) (rc_F F27 (Or.inl (by decide)) (by decide) (rc_F F18 (Or.inl (by decide)) (by decide) (hx))) (rc_F F27 (Or.inl (by decide)) (by decide) (rc_F F18 (Or.inl (by decide)) (by decide) (hn))) rfl (rc_F F27 (Or.inl (by decide)) (by decide) (rc_F F18 (Or.inl (by decide)) (by decide) (hrz))) (by omega) (by omega)) (fun r28 T30 σ29 gt31 hp => ?_)
  obtain ⟨rfl, rfl, w36, F37, f32, f33, f34⟩ := hp
  clear gt31
  show Tn _ _ 33 T σ29 [(0, .ref a), (1, .int (iI p1)), (2, .int (iI p2)), (3, .int (iI p3))] [] _
  exact tn_vret rfl dX4_addCopy_33 ⟨rfl, rfl, w36, (((FrC.rfl.trans (FrC.sub F18 (by decide))).trans (FrC.sub F27 (by decide))).trans (FrC.sub F37 (by decide))), (((CHX.rfl.trans (CHX.sub f14 (by simp) (by simp) (by simp))).trans (CHX.sub f23 (by simp) (by simp) (by simp))).trans (CHX.sub f32 (by simp) (by simp) (by simp))), (by have z1 := f15; (first | rw [hrz] at z1 | skip); have z2 := f24; (first | rw [hrz] at z2 | skip); have z3 := f33; (first | rw [hrz] at z3 | skip); exact it_3 (it_s z1 z2) z3), (f34.trans (by omega))⟩
end
section
set_option maxHeartbeats 1000000 in
set_option maxRecDepth 20000 in
theorem l_X4_addItem_x_24 (d : Nat) {T : CT} {σ0 : MS} {a : Nat} {c1 : Int} {c2 : Int} {c3 : Int} {W1 : Int → It} {h : Nat} {x : Nat} {n : Int} {W : Int → It} {g : Nat} {y : Nat} {ng : Int} {Wg : Int → It} {rz : Int} {base : Int} {lb : Int} {fb : Int} {post : Option Value → CT → MS → Prop} (h_a : OB T a 4) (r_c1 : 0 ≤ c1 ∧ c1 ≤ 200) (r_c2 : -2147483648 ≤ c2 ∧ c2 ≤ 2147483647) (r_c3 : -2147483648 ≤ c3 ∧ c3 ≤ 2147483647) (hw0 : WT T σ0) (hk : 0 ≤ c1 ∧ c1 < ng) (hkw : c2 = Wg c1 0 ∧ c3 = Wg c1 11) (hro : 0 ≤ rz ∧ rz < n) (hh : σ0.2.1 25 a = (h : Int)) (hx : σ0.2.1 5 h = (x : Int)) (hn : σ0.2.1 6 h = n) (hg : σ0.2.1 26 a = (g : Int)) (hy : σ0.2.1 5 g = (y : Int)) (hng : σ0.2.1 6 g = ng) (hWg : cW σ0 y ng = Wg) (hrz : σ0.2.1 32 a = rz) (hbase : σ0.2.1 27 a = base) (hlb : σ0.2.1 28 a = lb) (hfb : σ0.2.1 29 a = fb) (hN : n ≤ 200) (hgk : GOK Wg ng) (har : (0 ≤ base ∧ base ≤ 1000) ∧ (0 ≤ lb ∧ lb ≤ 10100) ∧ 0 ≤ fb ∧ fb ≤ 12) (hne : x ≠ y) (hN2 : ng ≤ 200) (hx_139 : ∀ (i4 : Int) (σ : MS) , (WT T σ) → (FrC T [] σ0 σ) → (3 ≤ i4 ∧ i4 ≤ 11) → (CHX [] [x] [] σ0 σ) → (AIP W1 (cW σ x n) base (Wg c1) rz i4) → (3 ≤ i4 ∧ i4 ≤ 11) → (11 ≤ i4) → Tn (d + 3) m_X4_addItem 139 T σ [(0, .ref a), (1, .int (iI c1)), (2, .int (iI c2)), (3, .int (iI c3)), (4, .int (iI i4))] [] post) : ∀ (nq9 : Nat) (i4 : Int) (σ : MS) , (WT T σ) → (FrC T [] σ0 σ) → (3 ≤ i4 ∧ i4 ≤ 11) → (CHX [] [x] [] σ0 σ) → (AIP W1 (cW σ x n) base (Wg c1) rz i4) → (3 ≤ i4 ∧ i4 ≤ 11) → (2147483700 - i4).toNat = nq9 → Tn (d + 3) m_X4_addItem 24 T σ [(0, .ref a), (1, .int (iI c1)), (2, .int (iI c2)), (3, .int (iI c3)), (4, .int (iI i4))] [] post := by
  intro nq9
  induction nq9 using Nat.strongRecOn with
  | _ nq9 ih =>
    intro i4 σ hw hF r_i4 hC hA h4 hm
    have hAn := hA.num
    refine tn_iload dX4_addItem_24 4 rfl ?_
    refine tn_bipush dX4_addItem_26 (by decide) ?_
    refine tn_icmp_ge (tgt := 139) dX4_addItem_28 (by decide) ⟨by omega, by omega⟩ ⟨by decide, by decide⟩ (fun h1 => ?_) (fun h1 => ?_)
    · exact tn_sub [0, 1, 2, 3, 4] rfl (hx_139 (i4) σ hw (FrC.rfl.trans (FrC.sub hF (by decide))) (by omega) hC hA (by omega) (by omega))
    · refine tn_aload_n dX4_addItem_31 rfl 0 rfl ?_
      have hk4 : (T g).1 = 50 := ob_of ((wf_26 hw0 h_a).resolve_left (by omega)) hg
      have hk4o : OB T g 1 := ⟨by omega, by rw [hk4]; rfl, by omega⟩
      refine tn_getR (ci := 4) (i := 3) (n := 26) (x := g) dX4_addItem_32 rfl lay_4 (by decide) fl4_33 h_a rfl rfl (rc_F hF (Or.inl (by decide)) (by decide) (hg)) ?_
      refine tn_iload_n dX4_addItem_35 rfl 1 rfl ?_
      refine tn_iload dX4_addItem_36 4 rfl ?_
      obtain ⟨hl9, hk8a, hk8b⟩ := cel_of (wf_5 hw0 hk4o) hy
      have hk8 : (T y).1 = 1 := hk8a (by omega)
      clear hk8a hk8b
      have hk8i : IA T y := by unfold IA; omega
      have cv10 : cW σ y ng = Wg := (cW_row (CHX.r hC (by first | (simp; done) | (simp only [List.mem_cons, List.not_mem_nil, or_false, not_or]; first | omega | ((repeat' apply And.intro) <;> first | assumption | (apply Ne.symm; assumption)))))).trans (hWg)
      refine tn_callV (M := m_X4_addItem) (pc := 38) (ix := 29) (ci := 1) (M' := m_X1_get) (As := [.int (iI c1), .int (iI i4)]) (rest := []) dX4_addItem_38 ok_X1_get im_X1_get se_X1_get ml4_29 np_X1_get rfl rfl hk4o rfl (Nat.le_of_ble_eq_true rfl) (Nat.le_of_ble_eq_true rfl) rfl (k_X1_get_x (d + 1) (T := T) (σ := σ) (a := g) (k := c1) (c := i4) (x := y) (n := ng) (W := Wg) hk4o (by omega) (by omega) hw (rc_F hF (Or.inl (by decide)) (by decide) (hy)) (rc_F hF (Or.inl (by decide)) (by decide) (hng)) cv10 (by omega) (by omega)) (fun r11 T13 σ12 gt14 hp => ?_)
      obtain ⟨v17, rfl, rfl, rfl, f15, f16⟩ := hp
      clear gt14
      show Tn _ _ 41 T σ [(0, .ref a), (1, .int (iI c1)), (2, .int (iI c2)), (3, .int (iI c3)), (4, .int (iI i4))] [.int (iI v17)] _
      refine tn_iconst dX4_addItem_41 ?_
      refine tn_icmp_eq (tgt := 62) dX4_addItem_42 (by decide) ⟨by omega, by omega⟩ ⟨by decide, by decide⟩ (fun h18 => ?_) (fun h18 => ?_)
      · refine tn_iconst dX4_addItem_62 ?_
        refine tn_goto (tgt := 67) dX4_addItem_63 (by decide) ?_
        refine tn_istore (L' := [(5, .int (iI 1)), (0, .ref a), (1, .int (iI c1)), (2, .int (iI c2)), (3, .int (iI c3)), (4, .int (iI i4))]) dX4_addItem_67 (by decide) rfl ?_
        refine tn_aload_n dX4_addItem_69 rfl 1 rfl ?_
        have hk21 : (T h).1 = 50 := ob_of ((wf_25 hw0 h_a).resolve_left (by omega)) hh
        have hk21o : OB T h 1 := ⟨by omega, by rw [hk21]; rfl, by omega⟩
        refine tn_getR (ci := 4) (i := 2) (n := 25) (x := h) dX4_addItem_70 rfl lay_4 (by decide) fl4_19 h_a rfl rfl (rc_F hF (Or.inl (by decide)) (by decide) (hh)) ?_
        refine tn_aload_n dX4_addItem_73 rfl 1 rfl ?_
        refine tn_getI (ci := 4) (i := 9) (n := 32) (t := σ0.2.1 32 a) dX4_addItem_74 rfl lay_4 (by decide) fl4_96 h_a rfl rfl (rc_F hF (Or.inl (by decide)) (by decide) (rfl)) ?_
        have g23 : ((-2147483648 : Int) ≤ σ0.2.1 32 a ∧ σ0.2.1 32 a ≤ 2147483647) := wf_32 hw0 h_a
        refine tn_iload dX4_addItem_77 5 rfl ?_
        refine tn_aload_n dX4_addItem_79 rfl 1 rfl ?_
        refine tn_getR (ci := 4) (i := 3) (n := 26) (x := g) dX4_addItem_80 rfl lay_4 (by decide) fl4_33 h_a rfl rfl (rc_F hF (Or.inl (by decide)) (by decide) (hg)) ?_
        refine tn_iload_n dX4_addItem_83 rfl 2 rfl ?_
        refine tn_iload dX4_addItem_84 5 rfl ?_
        refine tn_callV (M := m_X4_addItem) (pc := 86) (ix := 29) (ci := 1) (M' := m_X1_get) (As := [.int (iI c1), .int (iI i4)]) (rest := [.int (iI i4), .int (iI (σ0.2.1 32 a)), .ref h]) dX4_addItem_86 ok_X1_get im_X1_get se_X1_get ml4_29 np_X1_get rfl rfl hk4o rfl (Nat.le_of_ble_eq_true rfl) (Nat.le_of_ble_eq_true rfl) rfl (k_X1_get_x (d + 1) (T := T) (σ := σ) (a := g) (k := c1) (c := i4) (x := y) (n := ng) (W := Wg) hk4o (by omega) (by omega) hw (rc_F hF (Or.inl (by decide)) (by decide) (hy)) (rc_F hF (Or.inl (by decide)) (by decide) (hng)) cv10 (by omega) (by omega)) (fun r24 T26 σ25 gt27 hp => ?_)
        obtain ⟨v30, rfl, rfl, rfl, f28, f29⟩ := hp
        clear gt27
        show Tn _ _ 89 T σ [(5, .int (iI 1)), (0, .ref a), (1, .int (iI c1)), (2, .int (iI c2)), (3, .int (iI c3)), (4, .int (iI i4))] [.int (iI v30), .int (iI i4), .int (iI (σ0.2.1 32 a)), .ref h] _
        obtain ⟨hl34, hk33a, hk33b⟩ := cel_of (wf_5 hw0 hk21o) hx
        have hk33 : (T x).1 = 1 := hk33a (by omega)
        clear hk33a hk33b
        have hk33i : IA T x := by unfold IA; omega
        refine tn_callV (M := m_X4_addItem) (pc := 89) (ix := 144) (ci := 1) (M' := m_X1_set) (As := [.int (iI (σ0.2.1 32 a)), .int (iI i4), .int (iI v30)]) (rest := []) dX4_addItem_89 ok_X1_set im_X1_set se_X1_set ml4_144 np_X1_set rfl rfl hk21o rfl (Nat.le_of_ble_eq_true rfl) (Nat.le_of_ble_eq_true rfl) rfl (k_X1_set_x (d + 1) (T := T) (σ := σ) (a := h) (k := σ0.2.1 32 a) (c := i4) (y := v30) (x := x) (n := n) (W := cW σ x n) hk21o (by omega) (by omega) (by omega) hw (rc_F hF (Or.inl (by decide)) (by decide) (hx)) (rc_F hF (Or.inl (by decide)) (by decide) (hn)) rfl (by omega) (by omega) (by omega) (by omega)) (fun r35 T37 σ36 gt38 hp => ?_)
        obtain ⟨rfl, rfl, w42, F43, f39, f40⟩ := hp
        clear gt38
        show Tn _ _ 92 T σ36 [(5, .int (iI 1)), (0, .ref a), (1, .int (iI c1)), (2, .int (iI c2)), (3, .int (iI c3)), (4, .int (iI i4))] [] _
        refine tn_aload_n dX4_addItem_92 rfl 1 rfl ?_
        refine tn_getR (ci := 4) (i := 2) (n := 25) (x := h) dX4_addItem_93 rfl lay_4 (by decide) fl4_19 h_a rfl rfl (rc_F F43 (Or.inl (by decide)) (by decide) (rc_F hF (Or.inl (by decide)) (by decide) (hh))) ?_
        refine tn_aload_n dX4_addItem_96 rfl 1 rfl ?_
        refine tn_getI (ci := 4) (i := 9) (n := 32) (t := σ0.2.1 32 a) dX4_addItem_97 rfl lay_4 (by decide) fl4_96 h_a rfl rfl (rc_F F43 (Or.inl (by decide)) (by decide) (rc_F hF (Or.inl (by decide)) (by decide) (rfl))) ?_
        refine tn_iload dX4_addItem_100 5 rfl ?_
        refine tn_iconst dX4_addItem_102 ?_
        refine tn_iadd dX4_addItem_103 ?_
        refine tn_aload_n dX4_addItem_104 rfl 1 rfl ?_
        refine tn_getR (ci := 4) (i := 3) (n := 26) (x := g) dX4_addItem_105 rfl lay_4 (by decide) fl4_33 h_a rfl rfl (rc_F F43 (Or.inl (by decide)) (by decide) (rc_F hF (Or.inl (by decide)) (by decide) (hg))) ?_
        refine tn_iload_n dX4_addItem_108 rfl 2 rfl ?_
        refine tn_iload dX4_addItem_109 5 rfl ?_
        refine tn_iconst dX4_addItem_111 ?_
        refine tn_iadd dX4_addItem_112 ?_
        have cv44 : cW σ36 y ng = Wg := (cW_row (CHX.r f39 (by first | (simp; done) | (simp only [List.mem_cons, List.not_mem_nil, or_false, not_or]; first | omega | ((repeat' apply And.intro) <;> first | assumption | (apply Ne.symm; assumption)))))).trans (cv10)
        refine tn_callV (M := m_X4_addItem) (pc := 113) (ix := 29) (ci := 1) (M' := m_X1_get) (As := [.int (iI c1), .int (iI (i4 + 1))]) (rest := [.int (iI (i4 + 1)), .int (iI (σ0.2.1 32 a)), .ref h]) dX4_addItem_113 ok_X1_get im_X1_get se_X1_get ml4_29 np_X1_get rfl rfl hk4o rfl (Nat.le_of_ble_eq_true rfl) (Nat.le_of_ble_eq_true rfl) rfl (k_X1_get_x (d + 1) (T := T) (σ := σ36) (a := g) (k := c1) (c := i4 + 1) (x := y) (n := ng) (W := Wg) hk4o (by omega) (by omega) w42 (rc_F F43 (Or.inl (by decide)) (by decide) (rc_F hF (Or.inl (by decide)) (by decide) (hy))) (rc_F F43 (Or.inl (by decide)) (by decide) (rc_F hF (Or.inl (by decide)) (by decide) (hng))) cv44 (by omega) (by omega)) (fun r45 T47 σ46 gt48 hp => ?_)
        obtain ⟨v51, rfl, rfl, rfl, f49, f50⟩ := hp
        clear gt48
        show Tn _ _ 116 T σ36 [(5, .int (iI 1)), (0, .ref a), (1, .int (iI c1)), (2, .int (iI c2)), (3, .int (iI c3)), (4, .int (iI i4))] [.int (iI v51), .int (iI (i4 + 1)), .int (iI (σ0.2.1 32 a)), .ref h] _
        refine tn_iload dX4_addItem_116 0 rfl ?_
        refine tn_if_eq (tgt := 128) dX4_addItem_118 (by decide) ⟨by decide, by decide⟩ (fun h => absurd h (by decide)) (fun _ => ?_)
        refine tn_aload_n dX4_addItem_121 rfl 1 rfl ?_
        refine tn_getI (ci := 4) (i := 4) (n := 27) (t := σ0.2.1 27 a) dX4_addItem_122 rfl lay_4 (by decide) fl4_57 h_a rfl rfl (rc_F F43 (Or.inl (by decide)) (by decide) (rc_F hF (Or.inl (by decide)) (by decide) (rfl))) ?_
        have g53 : ((-2147483648 : Int) ≤ σ0.2.1 27 a ∧ σ0.2.1 27 a ≤ 2147483647) := wf_27 hw0 h_a
        refine tn_goto (tgt := 129) dX4_addItem_125 (by decide) ?_
        have hq9 : 0 ≤ Wg c1 (i4 + 1) ∧ Wg c1 (i4 + 1) < 192 := ((hgk c1 hk.1 hk.2).1.op (c := i4) (by omega) (by omega))
        refine tn_iadd dX4_addItem_129 ?_
        refine tn_callV (M := m_X4_addItem) (pc := 130) (ix := 144) (ci := 1) (M' := m_X1_set) (As := [.int (iI (σ0.2.1 32 a)), .int (iI (i4 + 1)), .int (iI (v51 + (σ0.2.1 27 a)))]) (rest := []) dX4_addItem_130 ok_X1_set im_X1_set se_X1_set ml4_144 np_X1_set rfl rfl hk21o rfl (Nat.le_of_ble_eq_true rfl) (Nat.le_of_ble_eq_true rfl) rfl (k_X1_set_x (d + 1) (T := T) (σ := σ36) (a := h) (k := σ0.2.1 32 a) (c := i4 + 1) (y := v51 + (σ0.2.1 27 a)) (x := x) (n := n) (W := cW σ36 x n) hk21o (by omega) (by omega) (by omega) w42 (rc_F F43 (Or.inl (by decide)) (by decide) (rc_F hF (Or.inl (by decide)) (by decide) (hx))) (rc_F F43 (Or.inl (by decide)) (by decide) (rc_F hF (Or.inl (by decide)) (by decide) (hn))) rfl (by omega) (by omega) (by omega) (by omega)) (fun r54 T56 σ55 gt57 hp => ?_)
        obtain ⟨rfl, rfl, w61, F62, f58, f59⟩ := hp
        clear gt57
        show Tn _ _ 133 T σ55 [(5, .int (iI 1)), (0, .ref a), (1, .int (iI c1)), (2, .int (iI c2)), (3, .int (iI c3)), (4, .int (iI i4))] [] _
        refine tn_iinc (q0 := 5) (L' := [(4, .int (iI (i4 + 2))), (5, .int (iI 1)), (0, .ref a), (1, .int (iI c1)), (2, .int (iI c2)), (3, .int (iI c3))]) dX4_addItem_133 rfl (by decide) rfl ?_
        refine tn_goto (tgt := 24) dX4_addItem_136 (by decide) ?_
        exact tn_sub [2, 3, 4, 5, 0] rfl (ih _ (by omega) (i4 + 2) σ55 w61 (((FrC.rfl.trans (FrC.sub hF (by decide))).trans (FrC.sub F43 (by decide))).trans (FrC.sub F62 (by decide))) (by omega) ((hC.trans (CHX.sub f39 (by simp) (by simp) (by simp))).trans (CHX.sub f58 (by simp) (by simp) (by simp))) (by have z1 := f40; (first | rw [hrz] at z1 | skip); have z2 := f59; (first | rw [hrz] at z2 | skip); exact hA.step (by omega) z1 z2 (by omega) (by rw [dI_y (show rgB (Wg c1) i4 from (Or.inl (by omega)))]; omega)) (by omega) rfl)
      · refine tn_iload dX4_addItem_45 4 rfl ?_
        refine tn_iconst dX4_addItem_47 ?_
        refine tn_icmp_ne (tgt := 66) dX4_addItem_48 (by decide) ⟨by omega, by omega⟩ ⟨by decide, by decide⟩ (fun h63 => ?_) (fun h63 => ?_)
        · refine tn_iconst dX4_addItem_66 ?_
          refine tn_istore (L' := [(5, .int (iI 0)), (0, .ref a), (1, .int (iI c1)), (2, .int (iI c2)), (3, .int (iI c3)), (4, .int (iI i4))]) dX4_addItem_67 (by decide) rfl ?_
          refine tn_aload_n dX4_addItem_69 rfl 1 rfl ?_
          have hk66 : (T h).1 = 50 := ob_of ((wf_25 hw0 h_a).resolve_left (by omega)) hh
          have hk66o : OB T h 1 := ⟨by omega, by rw [hk66]; rfl, by omega⟩
          refine tn_getR (ci := 4) (i := 2) (n := 25) (x := h) dX4_addItem_70 rfl lay_4 (by decide) fl4_19 h_a rfl rfl (rc_F hF (Or.inl (by decide)) (by decide) (hh)) ?_
          refine tn_aload_n dX4_addItem_73 rfl 1 rfl ?_
          refine tn_getI (ci := 4) (i := 9) (n := 32) (t := σ0.2.1 32 a) dX4_addItem_74 rfl lay_4 (by decide) fl4_96 h_a rfl rfl (rc_F hF (Or.inl (by decide)) (by decide) (rfl)) ?_
          have g68 : ((-2147483648 : Int) ≤ σ0.2.1 32 a ∧ σ0.2.1 32 a ≤ 2147483647) := wf_32 hw0 h_a
          refine tn_iload dX4_addItem_77 5 rfl ?_
          refine tn_aload_n dX4_addItem_79 rfl 1 rfl ?_
          refine tn_getR (ci := 4) (i := 3) (n := 26) (x := g) dX4_addItem_80 rfl lay_4 (by decide) fl4_33 h_a rfl rfl (rc_F hF (Or.inl (by decide)) (by decide) (hg)) ?_
          refine tn_iload_n dX4_addItem_83 rfl 2 rfl ?_
          refine tn_iload dX4_addItem_84 5 rfl ?_
          refine tn_callV (M := m_X4_addItem) (pc := 86) (ix := 29) (ci := 1) (M' := m_X1_get) (As := [.int (iI c1), .int (iI i4)]) (rest := [.int (iI i4), .int (iI (σ0.2.1 32 a)), .ref h]) dX4_addItem_86 ok_X1_get im_X1_get se_X1_get ml4_29 np_X1_get rfl rfl hk4o rfl (Nat.le_of_ble_eq_true rfl) (Nat.le_of_ble_eq_true rfl) rfl (k_X1_get_x (d + 1) (T := T) (σ := σ) (a := g) (k := c1) (c := i4) (x := y) (n := ng) (W := Wg) hk4o (by omega) (by omega) hw (rc_F hF (Or.inl (by decide)) (by decide) (hy)) (rc_F hF (Or.inl (by decide)) (by decide) (hng)) cv10 (by omega) (by omega)) (fun r69 T71 σ70 gt72 hp => ?_)
          obtain ⟨v75, rfl, rfl, rfl, f73, f74⟩ := hp
          clear gt72
          show Tn _ _ 89 T σ [(5, .int (iI 0)), (0, .ref a), (1, .int (iI c1)), (2, .int (iI c2)), (3, .int (iI c3)), (4, .int (iI i4))] [.int (iI v75), .int (iI i4), .int (iI (σ0.2.1 32 a)), .ref h] _
          obtain ⟨hl79, hk78a, hk78b⟩ := cel_of (wf_5 hw0 hk66o) hx
          have hk78 : (T x).1 = 1 := hk78a (by omega)
          clear hk78a hk78b
          have hk78i : IA T x := by unfold IA; omega
          refine tn_callV (M := m_X4_addItem) (pc := 89) (ix := 144) (ci := 1) (M' := m_X1_set) (As := [.int (iI (σ0.2.1 32 a)), .int (iI i4), .int (iI v75)]) (rest := []) dX4_addItem_89 ok_X1_set im_X1_set se_X1_set ml4_144 np_X1_set rfl rfl hk66o rfl (Nat.le_of_ble_eq_true rfl) (Nat.le_of_ble_eq_true rfl) rfl (k_X1_set_x (d + 1) (T := T) (σ := σ) (a := h) (k := σ0.2.1 32 a) (c := i4) (y := v75) (x := x) (n := n) (W := cW σ x n) hk66o (by omega) (by omega) (by omega) hw (rc_F hF (Or.inl (by decide)) (by decide) (hx)) (rc_F hF (Or.inl (by decide)) (by decide) (hn)) rfl (by omega) (by omega) (by omega) (by omega)) (fun r80 T82 σ81 gt83 hp => ?_)
          obtain ⟨rfl, rfl, w87, F88, f84, f85⟩ := hp
          clear gt83
          show Tn _ _ 92 T σ81 [(5, .int (iI 0)), (0, .ref a), (1, .int (iI c1)), (2, .int (iI c2)), (3, .int (iI c3)), (4, .int (iI i4))] [] _
          refine tn_aload_n dX4_addItem_92 rfl 1 rfl ?_
          refine tn_getR (ci := 4) (i := 2) (n := 25) (x := h) dX4_addItem_93 rfl lay_4 (by decide) fl4_19 h_a rfl rfl (rc_F F88 (Or.inl (by decide)) (by decide) (rc_F hF (Or.inl (by decide)) (by decide) (hh))) ?_
          refine tn_aload_n dX4_addItem_96 rfl 1 rfl ?_
          refine tn_getI (ci := 4) (i := 9) (n := 32) (t := σ0.2.1 32 a) dX4_addItem_97 rfl lay_4 (by decide) fl4_96 h_a rfl rfl (rc_F F88 (Or.inl (by decide)) (by decide) (rc_F hF (Or.inl (by decide)) (by decide) (rfl))) ?_
          refine tn_iload dX4_addItem_100 5 rfl ?_
          refine tn_iconst dX4_addItem_102 ?_
          refine tn_iadd dX4_addItem_103 ?_
          refine tn_aload_n dX4_addItem_104 rfl 1 rfl ?_
          refine tn_getR (ci := 4) (i := 3) (n := 26) (x := g) dX4_addItem_105 rfl lay_4 (by decide) fl4_33 h_a rfl rfl (rc_F F88 (Or.inl (by decide)) (by decide) (rc_F hF (Or.inl (by decide)) (by decide) (hg))) ?_
          refine tn_iload_n dX4_addItem_108 rfl 2 rfl ?_
          refine tn_iload dX4_addItem_109 5 rfl ?_
          refine tn_iconst dX4_addItem_111 ?_
          refine tn_iadd dX4_addItem_112 ?_
          have cv89 : cW σ81 y ng = Wg := (cW_row (CHX.r f84 (by first | (simp; done) | (simp only [List.mem_cons, List.not_mem_nil, or_false, not_or]; first | omega | ((repeat' apply And.intro) <;> first | assumption | (apply Ne.symm; assumption)))))).trans (cv10)
          refine tn_callV (M := m_X4_addItem) (pc := 113) (ix := 29) (ci := 1) (M' := m_X1_get) (As := [.int (iI c1), .int (iI (i4 + 1))]) (rest := [.int (iI (i4 + 1)), .int (iI (σ0.2.1 32 a)), .ref h]) dX4_addItem_113 ok_X1_get im_X1_get se_X1_get ml4_29 np_X1_get rfl rfl hk4o rfl (Nat.le_of_ble_eq_true rfl) (Nat.le_of_ble_eq_true rfl) rfl (k_X1_get_x (d + 1) (T := T) (σ := σ81) (a := g) (k := c1) (c := i4 + 1) (x := y) (n := ng) (W := Wg) hk4o (by omega) (by omega) w87 (rc_F F88 (Or.inl (by decide)) (by decide) (rc_F hF (Or.inl (by decide)) (by decide) (hy))) (rc_F F88 (Or.inl (by decide)) (by decide) (rc_F hF (Or.inl (by decide)) (by decide) (hng))) cv89 (by omega) (by omega)) (fun r90 T92 σ91 gt93 hp => ?_)
          obtain ⟨v96, rfl, rfl, rfl, f94, f95⟩ := hp
          clear gt93
          show Tn _ _ 116 T σ81 [(5, .int (iI 0)), (0, .ref a), (1, .int (iI c1)), (2, .int (iI c2)), (3, .int (iI c3)), (4, .int (iI i4))] [.int (iI v96), .int (iI (i4 + 1)), .int (iI (σ0.2.1 32 a)), .ref h] _
          refine tn_iload dX4_addItem_116 0 rfl ?_
          refine tn_if_eq (tgt := 128) dX4_addItem_118 (by decide) ⟨by decide, by decide⟩ (fun _ => ?_) (fun h => absurd h (by decide))
          refine tn_iconst dX4_addItem_128 ?_
          refine tn_iadd dX4_addItem_129 ?_
          refine tn_callV (M := m_X4_addItem) (pc := 130) (ix := 144) (ci := 1) (M' := m_X1_set) (As := [.int (iI (σ0.2.1 32 a)), .int (iI (i4 + 1)), .int (iI (v96 + 0))]) (rest := []) dX4_addItem_130 ok_X1_set im_X1_set se_X1_set ml4_144 np_X1_set rfl rfl hk66o rfl (Nat.le_of_ble_eq_true rfl) (Nat.le_of_ble_eq_true rfl) rfl (k_X1_set_x (d + 1) (T := T) (σ := σ81) (a := h) (k := σ0.2.1 32 a) (c := i4 + 1) (y := v96 + 0) (x := x) (n := n) (W := cW σ81 x n) hk66o (by omega) (by omega) (by omega) w87 (rc_F F88 (Or.inl (by decide)) (by decide) (rc_F hF (Or.inl (by decide)) (by decide) (hx))) (rc_F F88 (Or.inl (by decide)) (by decide) (rc_F hF (Or.inl (by decide)) (by decide) (hn))) rfl (by omega) (by omega) (by omega) (by omega)) (fun r98 T100 σ99 gt101 hp => ?_)
          obtain ⟨rfl, rfl, w105, F106, f102, f103⟩ := hp
          clear gt101
          show Tn _ _ 133 T σ99 [(5, .int (iI 0)), (0, .ref a), (1, .int (iI c1)), (2, .int (iI c2)), (3, .int (iI c3)), (4, .int (iI i4))] [] _
          refine tn_iinc (q0 := 5) (L' := [(4, .int (iI (i4 + 2))), (5, .int (iI 0)), (0, .ref a), (1, .int (iI c1)), (2, .int (iI c2)), (3, .int (iI c3))]) dX4_addItem_133 rfl (by decide) rfl ?_
          refine tn_goto (tgt := 24) dX4_addItem_136 (by decide) ?_
          exact tn_sub [2, 3, 4, 5, 0] rfl (ih _ (by omega) (i4 + 2) σ99 w105 (((FrC.rfl.trans (FrC.sub hF (by decide))).trans (FrC.sub F88 (by decide))).trans (FrC.sub F106 (by decide))) (by omega) ((hC.trans (CHX.sub f84 (by simp) (by simp) (by simp))).trans (CHX.sub f102 (by simp) (by simp) (by simp))) (by have z1 := f85; (first | rw [hrz] at z1 | skip); have z2 := f103; (first | rw [hrz] at z2 | skip); exact hA.step (by omega) z1 z2 (by omega) (by rw [dI_n (fun q => by unfold rgB at q; omega)]; omega)) (by omega) rfl)
        · refine tn_iload_n dX4_addItem_51 rfl 2 rfl ?_
          refine tn_bipush dX4_addItem_52 (by decide) ?_
          refine tn_icmp_ne (tgt := 66) dX4_addItem_54 (by decide) ⟨by omega, by omega⟩ ⟨by decide, by decide⟩ (fun h107 => ?_) (fun h107 => ?_)
          · refine tn_iconst dX4_addItem_66 ?_
            refine tn_istore (L' := [(5, .int (iI 0)), (0, .ref a), (1, .int (iI c1)), (2, .int (iI c2)), (3, .int (iI c3)), (4, .int (iI i4))]) dX4_addItem_67 (by decide) rfl ?_
            refine tn_aload_n dX4_addItem_69 rfl 1 rfl ?_
            have hk110 : (T h).1 = 50 := ob_of ((wf_25 hw0 h_a).resolve_left (by omega)) hh
            have hk110o : OB T h 1 := ⟨by omega, by rw [hk110]; rfl, by omega⟩
            refine tn_getR (ci := 4) (i := 2) (n := 25) (x := h) dX4_addItem_70 rfl lay_4 (by decide) fl4_19 h_a rfl rfl (rc_F hF (Or.inl (by decide)) (by decide) (hh)) ?_
            refine tn_aload_n dX4_addItem_73 rfl 1 rfl ?_
            refine tn_getI (ci := 4) (i := 9) (n := 32) (t := σ0.2.1 32 a) dX4_addItem_74 rfl lay_4 (by decide) fl4_96 h_a rfl rfl (rc_F hF (Or.inl (by decide)) (by decide) (rfl)) ?_
            have g112 : ((-2147483648 : Int) ≤ σ0.2.1 32 a ∧ σ0.2.1 32 a ≤ 2147483647) := wf_32 hw0 h_a
            refine tn_iload dX4_addItem_77 5 rfl ?_
            refine tn_aload_n dX4_addItem_79 rfl 1 rfl ?_
            refine tn_getR (ci := 4) (i := 3) (n := 26) (x := g) dX4_addItem_80 rfl lay_4 (by decide) fl4_33 h_a rfl rfl (rc_F hF (Or.inl (by decide)) (by decide) (hg)) ?_
            refine tn_iload_n dX4_addItem_83 rfl 2 rfl ?_
            refine tn_iload dX4_addItem_84 5 rfl ?_
            refine tn_callV (M := m_X4_addItem) (pc := 86) (ix := 29) (ci := 1) (M' := m_X1_get) (As := [.int (iI c1), .int (iI i4)]) (rest := [.int (iI i4), .int (iI (σ0.2.1 32 a)), .ref h]) dX4_addItem_86 ok_X1_get im_X1_get se_X1_get ml4_29 np_X1_get rfl rfl hk4o rfl (Nat.le_of_ble_eq_true rfl) (Nat.le_of_ble_eq_true rfl) rfl (k_X1_get_x (d + 1) (T := T) (σ := σ) (a := g) (k := c1) (c := i4) (x := y) (n := ng) (W := Wg) hk4o (by omega) (by omega) hw (rc_F hF (Or.inl (by decide)) (by decide) (hy)) (rc_F hF (Or.inl (by decide)) (by decide) (hng)) cv10 (by omega) (by omega)) (fun r113 T115 σ114 gt116 hp => ?_)
            obtain ⟨v119, rfl, rfl, rfl, f117, f118⟩ := hp
            clear gt116
            show Tn _ _ 89 T σ [(5, .int (iI 0)), (0, .ref a), (1, .int (iI c1)), (2, .int (iI c2)), (3, .int (iI c3)), (4, .int (iI i4))] [.int (iI v119), .int (iI i4), .int (iI (σ0.2.1 32 a)), .ref h] _
            obtain ⟨hl123, hk122a, hk122b⟩ := cel_of (wf_5 hw0 hk110o) hx
            have hk122 : (T x).1 = 1 := hk122a (by omega)
            clear hk122a hk122b
            have hk122i : IA T x := by unfold IA; omega
            refine tn_callV (M := m_X4_addItem) (pc := 89) (ix := 144) (ci := 1) (M' := m_X1_set) (As := [.int (iI (σ0.2.1 32 a)), .int (iI i4), .int (iI v119)]) (rest := []) dX4_addItem_89 ok_X1_set im_X1_set se_X1_set ml4_144 np_X1_set rfl rfl hk110o rfl (Nat.le_of_ble_eq_true rfl) (Nat.le_of_ble_eq_true rfl) rfl (k_X1_set_x (d + 1) (T := T) (σ := σ) (a := h) (k := σ0.2.1 32 a) (c := i4) (y := v119) (x := x) (n := n) (W := cW σ x n) hk110o (by omega) (by omega) (by omega) hw (rc_F hF (Or.inl (by decide)) (by decide) (hx)) (rc_F hF (Or.inl (by decide)) (by decide) (hn)) rfl (by omega) (by omega) (by omega) (by omega)) (fun r124 T126 σ125 gt127 hp => ?_)
            obtain ⟨rfl, rfl, w131, F132, f128, f129⟩ := hp
            clear gt127
            show Tn _ _ 92 T σ125 [(5, .int (iI 0)), (0, .ref a), (1, .int (iI c1)), (2, .int (iI c2)), (3, .int (iI c3)), (4, .int (iI i4))] [] _
            refine tn_aload_n dX4_addItem_92 rfl 1 rfl ?_
            refine tn_getR (ci := 4) (i := 2) (n := 25) (x := h) dX4_addItem_93 rfl lay_4 (by decide) fl4_19 h_a rfl rfl (rc_F F132 (Or.inl (by decide)) (by decide) (rc_F hF (Or.inl (by decide)) (by decide) (hh))) ?_
            refine tn_aload_n dX4_addItem_96 rfl 1 rfl ?_
            refine tn_getI (ci := 4) (i := 9) (n := 32) (t := σ0.2.1 32 a) dX4_addItem_97 rfl lay_4 (by decide) fl4_96 h_a rfl rfl (rc_F F132 (Or.inl (by decide)) (by decide) (rc_F hF (Or.inl (by decide)) (by decide) (rfl))) ?_
            refine tn_iload dX4_addItem_100 5 rfl ?_
            refine tn_iconst dX4_addItem_102 ?_
            refine tn_iadd dX4_addItem_103 ?_
            refine tn_aload_n dX4_addItem_104 rfl 1 rfl ?_
            refine tn_getR (ci := 4) (i := 3) (n := 26) (x := g) dX4_addItem_105 rfl lay_4 (by decide) fl4_33 h_a rfl rfl (rc_F F132 (Or.inl (by decide)) (by decide) (rc_F hF (Or.inl (by decide)) (by decide) (hg))) ?_
            refine tn_iload_n dX4_addItem_108 rfl 2 rfl ?_
            refine tn_iload dX4_addItem_109 5 rfl ?_
            refine tn_iconst dX4_addItem_111 ?_
            refine tn_iadd dX4_addItem_112 ?_
            have cv133 : cW σ125 y ng = Wg := (cW_row (CHX.r f128 (by first | (simp; done) | (simp only [List.mem_cons, List.not_mem_nil, or_false, not_or]; first | omega | ((repeat' apply And.intro) <;> first | assumption | (apply Ne.symm; assumption)))))).trans (cv10)
            refine tn_callV (M := m_X4_addItem) (pc := 113) (ix := 29) (ci := 1) (M' := m_X1_get) (As := [.int (iI c1), .int (iI (i4 + 1))]) (rest := [.int (iI (i4 + 1)), .int (iI (σ0.2.1 32 a)), .ref h]) dX4_addItem_113 ok_X1_get im_X1_get se_X1_get ml4_29 np_X1_get rfl rfl hk4o rfl (Nat.le_of_ble_eq_true rfl) (Nat.le_of_ble_eq_true rfl) rfl (k_X1_get_x (d + 1) (T := T) (σ := σ125) (a := g) (k := c1) (c := i4 + 1) (x := y) (n := ng) (W := Wg) hk4o (by omega) (by omega) w131 (rc_F F132 (Or.inl (by decide)) (by decide) (rc_F hF (Or.inl (by decide)) (by decide) (hy))) (rc_F F132 (Or.inl (by decide)) (by decide) (rc_F hF (Or.inl (by decide)) (by decide) (hng))) cv133 (by omega) (by omega)) (fun r134 T136 σ135 gt137 hp => ?_)
            obtain ⟨v140, rfl, rfl, rfl, f138, f139⟩ := hp
            clear gt137
            show Tn _ _ 116 T σ125 [(5, .int (iI 0)), (0, .ref a), (1, .int (iI c1)), (2, .int (iI c2)), (3, .int (iI c3)), (4, .int (iI i4))] [.int (iI v140), .int (iI (i4 + 1)), .int (iI (σ0.2.1 32 a)), .ref h] _
            refine tn_iload dX4_addItem_116 0 rfl ?_
            refine tn_if_eq (tgt := 128) dX4_addItem_118 (by decide) ⟨by decide, by decide⟩ (fun _ => ?_) (fun h => absurd h (by decide))
            refine tn_iconst dX4_addItem_128 ?_
            refine tn_iadd dX4_addItem_129 ?_
            refine tn_callV (M := m_X4_addItem) (pc := 130) (ix := 144) (ci := 1) (M' := m_X1_set) (As := [.int (iI (σ0.2.1 32 a)), .int (iI (i4 + 1)), .int (iI (v140 + 0))]) (rest := []) dX4_addItem_130 ok_X1_set im_X1_set se_X1_set ml4_144 np_X1_set rfl rfl hk110o rfl (Nat.le_of_ble_eq_true rfl) (Nat.le_of_ble_eq_true rfl) rfl (k_X1_set_x (d + 1) (T := T) (σ := σ125) (a := h) (k := σ0.2.1 32 a) (c := i4 + 1) (y := v140 + 0) (x := x) (n := n) (W := cW σ125 x n) hk110o (by omega) (by omega) (by omega) w131 (rc_F F132 (Or.inl (by decide)) (by decide) (rc_F hF (Or.inl (by decide)) (by decide) (hx))) (rc_F F132 (Or.inl (by decide)) (by decide) (rc_F hF (Or.inl (by decide)) (by decide) (hn))) rfl (by omega) (by omega) (by omega) (by omega)) (fun r142 T144 σ143 gt145 hp => ?_)
            obtain ⟨rfl, rfl, w149, F150, f146, f147⟩ := hp
            clear gt145
            show Tn _ _ 133 T σ143 [(5, .int (iI 0)), (0, .ref a), (1, .int (iI c1)), (2, .int (iI c2)), (3, .int (iI c3)), (4, .int (iI i4))] [] _
            refine tn_iinc (q0 := 5) (L' := [(4, .int (iI (i4 + 2))), (5, .int (iI 0)), (0, .ref a), (1, .int (iI c1)), (2, .int (iI c2)), (3, .int (iI c3))]) dX4_addItem_133 rfl (by decide) rfl ?_
            refine tn_goto (tgt := 24) dX4_addItem_136 (by decide) ?_
            exact tn_sub [2, 3, 4, 5, 0] rfl (ih _ (by omega) (i4 + 2) σ143 w149 (((FrC.rfl.trans (FrC.sub hF (by decide))).trans (FrC.sub F132 (by decide))).trans (FrC.sub F150 (by decide))) (by omega) ((hC.trans (CHX.sub f128 (by simp) (by simp) (by simp))).trans (CHX.sub f146 (by simp) (by simp) (by simp))) (by have z1 := f129; (first | rw [hrz] at z1 | skip); have z2 := f147; (first | rw [hrz] at z2 | skip); exact hA.step (by omega) z1 z2 (by omega) (by rw [dI_n (fun q => by unfold rgB at q; omega)]; omega)) (by omega) rfl)
          · refine tn_iload_n dX4_addItem_57 rfl 3 rfl ?_
            refine tn_iconst dX4_addItem_58 ?_
            refine tn_icmp_ne (tgt := 66) dX4_addItem_59 (by decide) ⟨by omega, by omega⟩ ⟨by decide, by decide⟩ (fun h151 => ?_) (fun h151 => ?_)
            · refine tn_iconst dX4_addItem_66 ?_
              refine tn_istore (L' := [(5, .int (iI 0)), (0, .ref a), (1, .int (iI c1)), (2, .int (iI c2)), (3, .int (iI c3)), (4, .int (iI i4))]) dX4_addItem_67 (by decide) rfl ?_
              refine tn_aload_n dX4_addItem_69 rfl 1 rfl ?_
              have hk154 : (T h).1 = 50 := ob_of ((wf_25 hw0 h_a).resolve_left (by omega)) hh
              have hk154o : OB T h 1 := ⟨by omega, by rw [hk154]; rfl, by omega⟩
              refine tn_getR (ci := 4) (i := 2) (n := 25) (x := h) dX4_addItem_70 rfl lay_4 (by decide) fl4_19 h_a rfl rfl (rc_F hF (Or.inl (by decide)) (by decide) (hh)) ?_
              refine tn_aload_n dX4_addItem_73 rfl 1 rfl ?_
              refine tn_getI (ci := 4) (i := 9) (n := 32) (t := σ0.2.1 32 a) dX4_addItem_74 rfl lay_4 (by decide) fl4_96 h_a rfl rfl (rc_F hF (Or.inl (by decide)) (by decide) (rfl)) ?_
              have g156 : ((-2147483648 : Int) ≤ σ0.2.1 32 a ∧ σ0.2.1 32 a ≤ 2147483647) := wf_32 hw0 h_a
              refine tn_iload dX4_addItem_77 5 rfl ?_
              refine tn_aload_n dX4_addItem_79 rfl 1 rfl ?_
              refine tn_getR (ci := 4) (i := 3) (n := 26) (x := g) dX4_addItem_80 rfl lay_4 (by decide) fl4_33 h_a rfl rfl (rc_F hF (Or.inl (by decide)) (by decide) (hg)) ?_
              refine tn_iload_n dX4_addItem_83 rfl 2 rfl ?_
              refine tn_iload dX4_addItem_84 5 rfl ?_
              refine tn_callV (M := m_X4_addItem) (pc := 86) (ix := 29) (ci := 1) (M' := m_X1_get) (As := [.int (iI c1), .int (iI i4)]) (rest := [.int (iI i4), .int (iI (σ0.2.1 32 a)), .ref h]) dX4_addItem_86 ok_X1_get im_X1_get se_X1_get ml4_29 np_X1_get rfl rfl hk4o rfl (Nat.le_of_ble_eq_true rfl) (Nat.le_of_ble_eq_true rfl) rfl (k_X1_get_x (d + 1) (T := T) (σ := σ) (a := g) (k := c1) (c := i4) (x := y) (n := ng) (W := Wg) hk4o (by omega) (by omega) hw (rc_F hF (Or.inl (by decide)) (by decide) (hy)) (rc_F hF (Or.inl (by decide)) (by decide) (hng)) cv10 (by omega) (by omega)) (fun r157 T159 σ158 gt160 hp => ?_)
              obtain ⟨v163, rfl, rfl, rfl, f161, f162⟩ := hp
              clear gt160
              show Tn _ _ 89 T σ [(5, .int (iI 0)), (0, .ref a), (1, .int (iI c1)), (2, .int (iI c2)), (3, .int (iI c3)), (4, .int (iI i4))] [.int (iI v163), .int (iI i4), .int (iI (σ0.2.1 32 a)), .ref h] _
              obtain ⟨hl167, hk166a, hk166b⟩ := cel_of (wf_5 hw0 hk154o) hx
              have hk166 : (T x).1 = 1 := hk166a (by omega)
              clear hk166a hk166b
              have hk166i : IA T x := by unfold IA; omega
              refine tn_callV (M := m_X4_addItem) (pc := 89) (ix := 144) (ci := 1) (M' := m_X1_set) (As := [.int (iI (σ0.2.1 32 a)), .int (iI i4), .int (iI v163)]) (rest := []) dX4_addItem_89 ok_X1_set im_X1_set se_X1_set ml4_144 np_X1_set rfl rfl hk154o rfl (Nat.le_of_ble_eq_true rfl) (Nat.le_of_ble_eq_true rfl) rfl (k_X1_set_x (d + 1) (T := T) (σ := σ) (a := h) (k := σ0.2.1 32 a) (c := i4) (y := v163) (x := x) (n := n) (W := cW σ x n) hk154o (by omega) (by omega) (by omega) hw (rc_F hF (Or.inl (by decide)) (by decide) (hx)) (rc_F hF (Or.inl (by decide)) (by decide) (hn)) rfl (by omega) (by omega) (by omega) (by omega)) (fun r168 T170 σ169 gt171 hp => ?_)
              obtain ⟨rfl, rfl, w175, F176, f172, f173⟩ := hp
              clear gt171
              show Tn _ _ 92 T σ169 [(5, .int (iI 0)), (0, .ref a), (1, .int (iI c1)), (2, .int (iI c2)), (3, .int (iI c3)), (4, .int (iI i4))] [] _
              refine tn_aload_n dX4_addItem_92 rfl 1 rfl ?_
              refine tn_getR (ci := 4) (i := 2) (n := 25) (x := h) dX4_addItem_93 rfl lay_4 (by decide) fl4_19 h_a rfl rfl (rc_F F176 (Or.inl (by decide)) (by decide) (rc_F hF (Or.inl (by decide)) (by decide) (hh))) ?_
              refine tn_aload_n dX4_addItem_96 rfl 1 rfl ?_
              refine tn_getI (ci := 4) (i := 9) (n := 32) (t := σ0.2.1 32 a) dX4_addItem_97 rfl lay_4 (by decide) fl4_96 h_a rfl rfl (rc_F F176 (Or.inl (by decide)) (by decide) (rc_F hF (Or.inl (by decide)) (by decide) (rfl))) ?_
              refine tn_iload dX4_addItem_100 5 rfl ?_
              refine tn_iconst dX4_addItem_102 ?_
              refine tn_iadd dX4_addItem_103 ?_
              refine tn_aload_n dX4_addItem_104 rfl 1 rfl ?_
              refine tn_getR (ci := 4) (i := 3) (n := 26) (x := g) dX4_addItem_105 rfl lay_4 (by decide) fl4_33 h_a rfl rfl (rc_F F176 (Or.inl (by decide)) (by decide) (rc_F hF (Or.inl (by decide)) (by decide) (hg))) ?_
              refine tn_iload_n dX4_addItem_108 rfl 2 rfl ?_
              refine tn_iload dX4_addItem_109 5 rfl ?_
              refine tn_iconst dX4_addItem_111 ?_
              refine tn_iadd dX4_addItem_112 ?_
              have cv177 : cW σ169 y ng = Wg := (cW_row (CHX.r f172 (by first | (simp; done) | (simp only [List.mem_cons, List.not_mem_nil, or_false, not_or]; first | omega | ((repeat' apply And.intro) <;> first | assumption | (apply Ne.symm; assumption)))))).trans (cv10)
              refine tn_callV (M := m_X4_addItem) (pc := 113) (ix := 29) (ci := 1) (M' := m_X1_get) (As := [.int (iI c1), .int (iI (i4 + 1))]) (rest := [.int (iI (i4 + 1)), .int (iI (σ0.2.1 32 a)), .ref h]) dX4_addItem_113 ok_X1_get im_X1_get se_X1_get ml4_29 np_X1_get rfl rfl hk4o rfl (Nat.le_of_ble_eq_true rfl) (Nat.le_of_ble_eq_true rfl) rfl (k_X1_get_x (d + 1) (T := T) (σ := σ169) (a := g) (k := c1) (c := i4 + 1) (x := y) (n := ng) (W := Wg) hk4o (by omega) (by omega) w175 (rc_F F176 (Or.inl (by decide)) (by decide) (rc_F hF (Or.inl (by decide)) (by decide) (hy))) (rc_F F176 (Or.inl (by decide)) (by decide) (rc_F hF (Or.inl (by decide)) (by decide) (hng))) cv177 (by omega) (by omega)) (fun r178 T180 σ179 gt181 hp => ?_)
              obtain ⟨v184, rfl, rfl, rfl, f182, f183⟩ := hp
              clear gt181
              show Tn _ _ 116 T σ169 [(5, .int (iI 0)), (0, .ref a), (1, .int (iI c1)), (2, .int (iI c2)), (3, .int (iI c3)), (4, .int (iI i4))] [.int (iI v184), .int (iI (i4 + 1)), .int (iI (σ0.2.1 32 a)), .ref h] _
              refine tn_iload dX4_addItem_116 0 rfl ?_
              refine tn_if_eq (tgt := 128) dX4_addItem_118 (by decide) ⟨by decide, by decide⟩ (fun _ => ?_) (fun h => absurd h (by decide))
              refine tn_iconst dX4_addItem_128 ?_
              refine tn_iadd dX4_addItem_129 ?_
              refine tn_callV (M := m_X4_addItem) (pc := 130) (ix := 144) (ci := 1) (M' := m_X1_set) (As := [.int (iI (σ0.2.1 32 a)), .int (iI (i4 + 1)), .int (iI (v184 + 0))]) (rest := []) dX4_addItem_130 ok_X1_set im_X1_set se_X1_set ml4_144 np_X1_set rfl rfl hk154o rfl (Nat.le_of_ble_eq_true rfl) (Nat.le_of_ble_eq_true rfl) rfl (k_X1_set_x (d + 1) (T := T) (σ := σ169) (a := h) (k := σ0.2.1 32 a) (c := i4 + 1) (y := v184 + 0) (x := x) (n := n) (W := cW σ169 x n) hk154o (by omega) (by omega) (by omega) w175 (rc_F F176 (Or.inl (by decide)) (by decide) (rc_F hF (Or.inl (by decide)) (by decide) (hx))) (rc_F F176 (Or.inl (by decide)) (by decide) (rc_F hF (Or.inl (by decide)) (by decide) (hn))) rfl (by omega) (by omega) (by omega) (by omega)) (fun r186 T188 σ187 gt189 hp => ?_)
              obtain ⟨rfl, rfl, w193, F194, f190, f191⟩ := hp
              clear gt189
              show Tn _ _ 133 T σ187 [(5, .int (iI 0)), (0, .ref a), (1, .int (iI c1)), (2, .int (iI c2)), (3, .int (iI c3)), (4, .int (iI i4))] [] _
              refine tn_iinc (q0 := 5) (L' := [(4, .int (iI (i4 + 2))), (5, .int (iI 0)), (0, .ref a), (1, .int (iI c1)), (2, .int (iI c2)), (3, .int (iI c3))]) dX4_addItem_133 rfl (by decide) rfl ?_
              refine tn_goto (tgt := 24) dX4_addItem_136 (by decide) ?_
              exact tn_sub [2, 3, 4, 5, 0] rfl (ih _ (by omega) (i4 + 2) σ187 w193 (((FrC.rfl.trans (FrC.sub hF (by decide))).trans (FrC.sub F176 (by decide))).trans (FrC.sub F194 (by decide))) (by omega) ((hC.trans (CHX.sub f172 (by simp) (by simp) (by simp))).trans (CHX.sub f190 (by simp) (by simp) (by simp))) (by have z1 := f173; (first | rw [hrz] at z1 | skip); have z2 := f191; (first | rw [hrz] at z2 | skip); exact hA.step (by omega) z1 z2 (by omega) (by rw [dI_n (fun q => by unfold rgB at q; omega)]; omega)) (by omega) rfl)
            · refine tn_iconst dX4_addItem_62 ?_
              refine tn_goto (tgt := 67) dX4_addItem_63 (by decide) ?_
              refine tn_istore (L' := [(5, .int (iI 1)), (0, .ref a), (1, .int (iI c1)), (2, .int (iI c2)), (3, .int (iI c3)), (4, .int (iI i4))]) dX4_addItem_67 (by decide) rfl ?_
              refine tn_aload_n dX4_addItem_69 rfl 1 rfl ?_
              have hk197 : (T h).1 = 50 := ob_of ((wf_25 hw0 h_a).resolve_left (by omega)) hh
              have hk197o : OB T h 1 := ⟨by omega, by rw [hk197]; rfl, by omega⟩
              refine tn_getR (ci := 4) (i := 2) (n := 25) (x := h) dX4_addItem_70 rfl lay_4 (by decide) fl4_19 h_a rfl rfl (rc_F hF (Or.inl (by decide)) (by decide) (hh)) ?_
              refine tn_aload_n dX4_addItem_73 rfl 1 rfl ?_
              refine tn_getI (ci := 4) (i := 9) (n := 32) (t := σ0.2.1 32 a) dX4_addItem_74 rfl lay_4 (by decide) fl4_96 h_a rfl rfl (rc_F hF (Or.inl (by decide)) (by decide) (rfl)) ?_
              have g199 : ((-2147483648 : Int) ≤ σ0.2.1 32 a ∧ σ0.2.1 32 a ≤ 2147483647) := wf_32 hw0 h_a
              refine tn_iload dX4_addItem_77 5 rfl ?_
              refine tn_aload_n dX4_addItem_79 rfl 1 rfl ?_
              refine tn_getR (ci := 4) (i := 3) (n := 26) (x := g) dX4_addItem_80 rfl lay_4 (by decide) fl4_33 h_a rfl rfl (rc_F hF (Or.inl (by decide)) (by decide) (hg)) ?_
              refine tn_iload_n dX4_addItem_83 rfl 2 rfl ?_
              refine tn_iload dX4_addItem_84 5 rfl ?_
              refine tn_callV (M := m_X4_addItem) (pc := 86) (ix := 29) (ci := 1) (M' := m_X1_get) (As := [.int (iI c1), .int (iI i4)]) (rest := [.int (iI i4), .int (iI (σ0.2.1 32 a)), .ref h]) dX4_addItem_86 ok_X1_get im_X1_get se_X1_get ml4_29 np_X1_get rfl rfl hk4o rfl (Nat.le_of_ble_eq_true rfl) (Nat.le_of_ble_eq_true rfl) rfl (k_X1_get_x (d + 1) (T := T) (σ := σ) (a := g) (k := c1) (c := i4) (x := y) (n := ng) (W := Wg) hk4o (by omega) (by omega) hw (rc_F hF (Or.inl (by decide)) (by decide) (hy)) (rc_F hF (Or.inl (by decide)) (by decide) (hng)) cv10 (by omega) (by omega)) (fun r200 T202 σ201 gt203 hp => ?_)
              obtain ⟨v206, rfl, rfl, rfl, f204, f205⟩ := hp
              clear gt203
              show Tn _ _ 89 T σ [(5, .int (iI 1)), (0, .ref a), (1, .int (iI c1)), (2, .int (iI c2)), (3, .int (iI c3)), (4, .int (iI i4))] [.int (iI v206), .int (iI i4), .int (iI (σ0.2.1 32 a)), .ref h] _
              obtain ⟨hl210, hk209a, hk209b⟩ := cel_of (wf_5 hw0 hk197o) hx
              have hk209 : (T x).1 = 1 := hk209a (by omega)
              clear hk209a hk209b
              have hk209i : IA T x := by unfold IA; omega
              refine tn_callV (M := m_X4_addItem) (pc := 89) (ix := 144) (ci := 1) (M' := m_X1_set) (As := [.int (iI (σ0.2.1 32 a)), .int (iI i4), .int (iI v206)]) (rest := []) dX4_addItem_89 ok_X1_set im_X1_set se_X1_set ml4_144 np_X1_set rfl rfl hk197o rfl (Nat.le_of_ble_eq_true rfl) (Nat.le_of_ble_eq_true rfl) rfl (k_X1_set_x (d + 1) (T := T) (σ := σ) (a := h) (k := σ0.2.1 32 a) (c := i4) (y := v206) (x := x) (n := n) (W := cW σ x n) hk197o (by omega) (by omega) (by omega) hw (rc_F hF (Or.inl (by decide)) (by decide) (hx)) (rc_F hF (Or.inl (by decide)) (by decide) (hn)) rfl (by omega) (by omega) (by omega) (by omega)) (fun r211 T213 σ212 gt214 hp => ?_)
              obtain ⟨rfl, rfl, w218, F219, f215, f216⟩ := hp
              clear gt214
              show Tn _ _ 92 T σ212 [(5, .int (iI 1)), (0, .ref a), (1, .int (iI c1)), (2, .int (iI c2)), (3, .int (iI c3)), (4, .int (iI i4))] [] _
              refine tn_aload_n dX4_addItem_92 rfl 1 rfl ?_
              refine tn_getR (ci := 4) (i := 2) (n := 25) (x := h) dX4_addItem_93 rfl lay_4 (by decide) fl4_19 h_a rfl rfl (rc_F F219 (Or.inl (by decide)) (by decide) (rc_F hF (Or.inl (by decide)) (by decide) (hh))) ?_
              refine tn_aload_n dX4_addItem_96 rfl 1 rfl ?_
              refine tn_getI (ci := 4) (i := 9) (n := 32) (t := σ0.2.1 32 a) dX4_addItem_97 rfl lay_4 (by decide) fl4_96 h_a rfl rfl (rc_F F219 (Or.inl (by decide)) (by decide) (rc_F hF (Or.inl (by decide)) (by decide) (rfl))) ?_
              refine tn_iload dX4_addItem_100 5 rfl ?_
              refine tn_iconst dX4_addItem_102 ?_
              refine tn_iadd dX4_addItem_103 ?_
              refine tn_aload_n dX4_addItem_104 rfl 1 rfl ?_
              refine tn_getR (ci := 4) (i := 3) (n := 26) (x := g) dX4_addItem_105 rfl lay_4 (by decide) fl4_33 h_a rfl rfl (rc_F F219 (Or.inl (by decide)) (by decide) (rc_F hF (Or.inl (by decide)) (by decide) (hg))) ?_
              refine tn_iload_n dX4_addItem_108 rfl 2 rfl ?_
              refine tn_iload dX4_addItem_109 5 rfl ?_
              refine tn_iconst dX4_addItem_111 ?_
              refine tn_iadd dX4_addItem_112 ?_
              have cv220 : cW σ212 y ng = Wg := (cW_row (CHX.r f215 (by first | (simp; done) | (simp only [List.mem_cons, List.not_mem_nil, or_false, not_or]; first | omega | ((repeat' apply And.intro) <;> first | assumption | (apply Ne.symm; assumption)))))).trans (cv10)
              refine tn_callV (M := m_X4_addItem) (pc := 113) (ix := 29) (ci := 1) (M' := m_X1_get) (As := [.int (iI c1), .int (iI (i4 + 1))]) (rest := [.int (iI (i4 + 1)), .int (iI (σ0.2.1 32 a)), .ref h]) dX4_addItem_113 ok_X1_get im_X1_get se_X1_get ml4_29 np_X1_get rfl rfl hk4o rfl (Nat.le_of_ble_eq_true rfl) (Nat.le_of_ble_eq_true rfl) rfl (k_X1_get_x (d + 1) (T := T) (σ := σ212) (a := g) (k := c1) (c := i4 + 1) (x := y) (n := ng) (W := Wg) hk4o (by omega) (by omega) w218 (rc_F F219 (Or.inl (by decide)) (by decide) (rc_F hF (Or.inl (by decide)) (by decide) (hy))) (rc_F F219 (Or.inl (by decide)) (by decide) (rc_F hF (Or.inl (by decide)) (by decide) (hng))) cv220 (by omega) (by omega)) (fun r221 T223 σ222 gt224 hp => ?_)
              obtain ⟨v227, rfl, rfl, rfl, f225, f226⟩ := hp
              clear gt224
              show Tn _ _ 116 T σ212 [(5, .int (iI 1)), (0, .ref a), (1, .int (iI c1)), (2, .int (iI c2)), (3, .int (iI c3)), (4, .int (iI i4))] [.int (iI v227), .int (iI (i4 + 1)), .int (iI (σ0.2.1 32 a)), .ref h] _
              refine tn_iload dX4_addItem_116 0 rfl ?_
              refine tn_if_eq (tgt := 128) dX4_addItem_118 (by decide) ⟨by decide, by decide⟩ (fun h => absurd h (by decide)) (fun _ => ?_)
              refine tn_aload_n dX4_addItem_121 rfl 1 rfl ?_
              refine tn_getI (ci := 4) (i := 4) (n := 27) (t := σ0.2.1 27 a) dX4_addItem_122 rfl lay_4 (by decide) fl4_57 h_a rfl rfl (rc_F F219 (Or.inl (by decide)) (by decide) (rc_F hF (Or.inl (by decide)) (by decide) (rfl))) ?_
              have g229 : ((-2147483648 : Int) ≤ σ0.2.1 27 a ∧ σ0.2.1 27 a ≤ 2147483647) := wf_27 hw0 h_a
              refine tn_goto (tgt := 129) dX4_addItem_125 (by decide) ?_
              have hq9 : 0 ≤ Wg c1 (i4 + 1) ∧ Wg c1 (i4 + 1) < 192 := (by have z := (hgk c1 hk.1 hk.2).1.2.2.2.2 (by omega) (Or.inr (by omega)); have z2 := z.2.2.2 (by omega); rw [show i4 + 1 = 4 by omega]; exact z2)
              refine tn_iadd dX4_addItem_129 ?_
              refine tn_callV (M := m_X4_addItem) (pc := 130) (ix := 144) (ci := 1) (M' := m_X1_set) (As := [.int (iI (σ0.2.1 32 a)), .int (iI (i4 + 1)), .int (iI (v227 + (σ0.2.1 27 a)))]) (rest := []) dX4_addItem_130 ok_X1_set im_X1_set se_X1_set ml4_144 np_X1_set rfl rfl hk197o rfl (Nat.le_of_ble_eq_true rfl) (Nat.le_of_ble_eq_true rfl) rfl (k_X1_set_x (d + 1) (T := T) (σ := σ212) (a := h) (k := σ0.2.1 32 a) (c := i4 + 1) (y := v227 + (σ0.2.1 27 a)) (x := x) (n := n) (W := cW σ212 x n) hk197o (by omega) (by omega) (by omega) w218 (rc_F F219 (Or.inl (by decide)) (by decide) (rc_F hF (Or.inl (by decide)) (by decide) (hx))) (rc_F F219 (Or.inl (by decide)) (by decide) (rc_F hF (Or.inl (by decide)) (by decide) (hn))) rfl (by omega) (by omega) (by omega) (by omega)) (fun r230 T232 σ231 gt233 hp => ?_)
              obtain ⟨rfl, rfl, w237, F238, f234, f235⟩ := hp
              clear gt233
              show Tn _ _ 133 T σ231 [(5, .int (iI 1)), (0, .ref a), (1, .int (iI c1)), (2, .int (iI c2)), (3, .int (iI c3)), (4, .int (iI i4))] [] _
              refine tn_iinc (q0 := 5) (L' := [(4, .int (iI (i4 + 2))), (5, .int (iI 1)), (0, .ref a), (1, .int (iI c1)), (2, .int (iI c2)), (3, .int (iI c3))]) dX4_addItem_133 rfl (by decide) rfl ?_
              refine tn_goto (tgt := 24) dX4_addItem_136 (by decide) ?_
              exact tn_sub [2, 3, 4, 5, 0] rfl (ih _ (by omega) (i4 + 2) σ231 w237 (((FrC.rfl.trans (FrC.sub hF (by decide))).trans (FrC.sub F219 (by decide))).trans (FrC.sub F238 (by decide))) (by omega) ((hC.trans (CHX.sub f215 (by simp) (by simp) (by simp))).trans (CHX.sub f234 (by simp) (by simp) (by simp))) (by have z1 := f216; (first | rw [hrz] at z1 | skip); have z2 := f235; (first | rw [hrz] at z2 | skip); exact hA.step (by omega) z1 z2 (by omega) (by rw [dI_y (show rgB (Wg c1) i4 from (Or.inr ⟨by omega, by omega, by omega⟩))]; omega)) (by omega) rfl)
set_option maxHeartbeats 1000000 in
set_option maxRecDepth 20000 in
theorem k_X4_addItem_x (d : Nat) {T : CT} {σ : MS} {a : Nat} {k : Int} {h : Nat} {x : Nat} {n : Int} {W : Int → It} {g : Nat} {y : Nat} {ng : Int} {Wg : Int → It} {rz : Int} {base : Int} {lb : Int} {fb : Int} (ha : OB T a 4) (h_k : -2147483648 ≤ k ∧ k ≤ 2147483647) (hw : WT T σ) (hh : σ.2.1 25 a = (h : Int)) (hx : σ.2.1 5 h = (x : Int)) (hn : σ.2.1 6 h = n) (hW : cW σ x n = W) (hg : σ.2.1 26 a = (g : Int)) (hy : σ.2.1 5 g = (y : Int)) (hng : σ.2.1 6 g = ng) (hWg : cW σ y ng = Wg) (hrz : σ.2.1 32 a = rz) (hbase : σ.2.1 27 a = base) (hlb : σ.2.1 28 a = lb) (hfb : σ.2.1 29 a = fb) (hN : n ≤ 200) (hgk : GOK Wg ng) (har : (0 ≤ base ∧ base ≤ 1000) ∧ (0 ≤ lb ∧ lb ≤ 10100) ∧ 0 ≤ fb ∧ fb ≤ 12) (hne : x ≠ y) (hN2 : ng ≤ 200) (hro : 0 ≤ rz ∧ rz < n) (hk : 0 ≤ k ∧ k < ng) : Tn (d + 3) m_X4_addItem 0 T σ [(0, .ref a), (1, .int (iI k))] [] (fun ro T2 σ2 => ro = none ∧ T = T2 ∧ WT T2 σ2 ∧ FrC T [32] σ σ2 ∧ (CHX [(32, a)] [x] [] σ σ2) ∧ (cW σ2 x n = uZ W rz (amI fb base lb (Wg k) (W rz))) ∧ (σ2.2.1 32 a = rz + 1)) := by
  refine tn_aload_n dX4_addItem_0 rfl 0 rfl ?_
  have hk3 : (T g).1 = 50 := ob_of ((wf_26 hw ha).resolve_left (by omega)) hg
  have hk3o : OB T g 1 := ⟨by omega, by rw [hk3]; rfl, by omega⟩
  refine tn_getR (ci := 4) (i := 3) (n := 26) (x := g) dX4_addItem_1 rfl lay_4 (by decide) fl4_33 ha rfl rfl (hg) ?_
  refine tn_iload_n dX4_addItem_4 rfl 1 rfl ?_
  refine tn_iconst dX4_addItem_5 ?_
  obtain ⟨hl8, hk7a, hk7b⟩ := cel_of (wf_5 hw hk3o) hy
  have hk7 : (T y).1 = 1 := hk7a (by omega)
  clear hk7a hk7b
  have hk7i : IA T y := by unfold IA; omega
  refine tn_callV (M := m_X4_addItem) (pc := 6) (ix := 29) (ci := 1) (M' := m_X1_get) (As := [.int (iI k), .int (iI 0)]) (rest := []) dX4_addItem_6 ok_X1_get im_X1_get se_X1_get ml4_29 np_X1_get rfl rfl hk3o rfl (Nat.le_of_ble_eq_true rfl) (Nat.le_of_ble_eq_true rfl) rfl (k_X1_get_x (d + 1) (T := T) (σ := σ) (a := g) (k := k) (c := 0) (x := y) (n := ng) (W := Wg) hk3o (by omega) (by decide) hw (hy) (hng) hWg (by omega) (by omega)) (fun r9 T11 σ10 gt12 hp => ?_)
  obtain ⟨v15, rfl, rfl, rfl, f13, f14⟩ := hp
  clear gt12
  show Tn _ _ 9 T σ [(0, .ref a), (1, .int (iI k))] [.int (iI v15)] _
  refine tn_istore_n (L' := [(2, .int (iI v15)), (0, .ref a), (1, .int (iI k))]) dX4_addItem_9 rfl (by decide) rfl ?_
  refine tn_aload_n dX4_addItem_10 rfl 1 rfl ?_
  refine tn_getR (ci := 4) (i := 3) (n := 26) (x := g) dX4_addItem_11 rfl lay_4 (by decide) fl4_33 ha rfl rfl (hg) ?_
  refine tn_iload_n dX4_addItem_14 rfl 2 rfl ?_
  refine tn_bipush dX4_addItem_15 (by decide) ?_
  refine tn_callV (M := m_X4_addItem) (pc := 17) (ix := 29) (ci := 1) (M' := m_X1_get) (As := [.int (iI k), .int (iI 11)]) (rest := []) dX4_addItem_17 ok_X1_get im_X1_get se_X1_get ml4_29 np_X1_get rfl rfl hk3o rfl (Nat.le_of_ble_eq_true rfl) (Nat.le_of_ble_eq_true rfl) rfl (k_X1_get_x (d + 1) (T := T) (σ := σ) (a := g) (k := k) (c := 11) (x := y) (n := ng) (W := Wg) hk3o (by omega) (by decide) hw (hy) (hng) hWg (by omega) (by omega)) (fun r16 T18 σ17 gt19 hp => ?_)
  obtain ⟨v22, rfl, rfl, rfl, f20, f21⟩ := hp
  clear gt19
  show Tn _ _ 20 T σ [(2, .int (iI v15)), (0, .ref a), (1, .int (iI k))] [.int (iI v22)] _
  refine tn_istore_n (L' := [(3, .int (iI v22)), (2, .int (iI v15)), (0, .ref a), (1, .int (iI k))]) dX4_addItem_20 rfl (by decide) rfl ?_
  refine tn_iconst dX4_addItem_21 ?_
  refine tn_istore (L' := [(4, .int (iI 3)), (3, .int (iI v22)), (2, .int (iI v15)), (0, .ref a), (1, .int (iI k))]) dX4_addItem_22 (by decide) rfl ?_
  refine tn_sub [3, 4, 2, 1, 0] rfl (l_X4_addItem_x_24 (d) (T := T) (σ0 := σ) (a := a) (c1 := k) (c2 := v15) (c3 := v22) (h := h) (x := x) (n := n) (W := W) (g := g) (y := y) (ng := ng) (Wg := (Wg)) (rz := rz) (base := base) (lb := lb) (fb := fb) (W1 := W) ha (by omega) (by omega) (by omega) hw (by omega) (by omega) (by omega) (hh) (hx) (hn) (hg) (hy) (hng) hWg (hrz) (hbase) (hlb) (hfb) hN hgk har hne hN2 (fun i423 σ24 w27 F28 r29 f30 f31 f32 f33 => ?_) _ (3) σ hw FrC.rfl (by omega) CHX.rfl (by rw [hW]; exact AIP.nil) (by omega) rfl)
  show Tn _ _ 139 T σ24 [(0, .ref a), (1, .int (iI k)), (2, .int (iI v15)), (3, .int (iI v22)), (4, .int (iI i423))] [] _
  refine tn_aload_n dX4_addItem_139 rfl 0 rfl ?_
  have hk36 : (T h).1 = 50 := ob_of ((wf_25 hw ha).resolve_left (by omega)) hh
  have hk36o : OB T h 1 := ⟨by omega, by rw [hk36]; rfl, by omega⟩
  refine tn_getR (ci := 4) (i := 2) (n := 25) (x := h) dX4_addItem_140 rfl lay_4 (by decide) fl4_19 ha rfl rfl (rc_F F28 (Or.inl (by decide)) (by decide) (hh)) ?_
  refine tn_aload_n dX4_addItem_143 rfl 0 rfl ?_
  refine tn_getI (ci := 4) (i := 9) (n := 32) (t := σ.2.1 32 a) dX4_addItem_144 rfl lay_4 (by decide) fl4_96 ha rfl rfl (rc_F F28 (Or.inl (by decide)) (by decide) (rfl)) ?_
  have g38 : ((-2147483648 : Int) ≤ σ.2.1 32 a ∧ σ.2.1 32 a ≤ 2147483647) := wf_32 hw ha
  refine tn_bipush dX4_addItem_147 (by decide) ?_
  refine tn_iload_n dX4_addItem_149 rfl 3 rfl ?_
  obtain ⟨hl42, hk41a, hk41b⟩ := cel_of (wf_5 hw hk36o) hx
  have hk41 : (T x).1 = 1 := hk41a (by omega)
  clear hk41a hk41b
  have hk41i : IA T x := by unfold IA; omega
  refine tn_callV (M := m_X4_addItem) (pc := 150) (ix := 144) (ci := 1) (M' := m_X1_set) (As := [.int (iI (σ.2.1 32 a)), .int (iI 11), .int (iI v22)]) (rest := []) dX4_addItem_150 ok_X1_set im_X1_set se_X1_set ml4_144 np_X1_set rfl rfl hk36o rfl (Nat.le_of_ble_eq_true rfl) (Nat.le_of_ble_eq_true rfl) rfl (k_X1_set_x (d + 1) (T := T) (σ := σ24) (a := h) (k := σ.2.1 32 a) (c := 11) (y := v22) (x := x) (n := n) (W := cW σ24 x n) hk36o (by omega) (by decide) (by omega) w27 (rc_F F28 (Or.inl (by decide)) (by decide) (hx)) (rc_F F28 (Or.inl (by decide)) (by decide) (hn)) rfl (by omega) (by omega) (by omega) (by omega)) (fun r43 T45 σ44 gt46 hp => ?_)
  obtain ⟨rfl, rfl, w50, F51, f47, f48⟩ := hp
  clear gt46
  show Tn _ _ 153 T σ44 [(0, .ref a), (1, .int (iI k)), (2, .int (iI v15)), (3, .int (iI v22)), (4, .int (iI i423))] [] _
  refine tn_iload_n dX4_addItem_153 rfl 2 rfl ?_
  refine tn_bipush dX4_addItem_154 (by decide) ?_
  refine tn_icmp_eq (tgt := 165) dX4_addItem_156 (by decide) ⟨by omega, by omega⟩ ⟨by decide, by decide⟩ (fun h52 => ?_) (fun h52 => ?_)
  · refine tn_iconst dX4_addItem_165 ?_
    refine tn_goto (tgt := 170) dX4_addItem_166 (by decide) ?_
    refine tn_istore (L' := [(4, .int (iI 1)), (0, .ref a), (1, .int (iI k)), (2, .int (iI v15)), (3, .int (iI v22))]) dX4_addItem_170 (by decide) rfl ?_
    refine tn_aload_n dX4_addItem_172 rfl 1 rfl ?_
    refine tn_iload_n dX4_addItem_173 rfl 3 rfl ?_
    refine tn_aload_n dX4_addItem_174 rfl 1 rfl ?_
    refine tn_getR (ci := 4) (i := 3) (n := 26) (x := g) dX4_addItem_175 rfl lay_4 (by decide) fl4_33 ha rfl rfl (rc_F F51 (Or.inl (by decide)) (by decide) (rc_F F28 (Or.inl (by decide)) (by decide) (hg))) ?_
    refine tn_iload_n dX4_addItem_178 rfl 2 rfl ?_
    refine tn_iconst dX4_addItem_179 ?_
    have cv53 : cW σ44 y ng = Wg := (cW_row (CHX.r f47 (by first | (simp; done) | (simp only [List.mem_cons, List.not_mem_nil, or_false, not_or]; first | omega | ((repeat' apply And.intro) <;> first | assumption | (apply Ne.symm; assumption)))))).trans ((cW_row (CHX.r f30 (by first | (simp; done) | (simp only [List.mem_cons, List.not_mem_nil, or_false, not_or]; first | omega | ((repeat' apply And.intro) <;> first | assumption | (apply Ne.symm; assumption)))))).trans (hWg))
    refine tn_callV (M := m_X4_addItem) (pc := 180) (ix := 29) (ci := 1) (M' := m_X1_get) (As := [.int (iI k), .int (iI 1)]) (rest := [.int (iI v15), .ref a]) dX4_addItem_180 ok_X1_get im_X1_get se_X1_get ml4_29 np_X1_get rfl rfl hk3o rfl (Nat.le_of_ble_eq_true rfl) (Nat.le_of_ble_eq_true rfl) rfl (k_X1_get_x (d + 1) (T := T) (σ := σ44) (a := g) (k := k) (c := 1) (x := y) (n := ng) (W := Wg) hk3o (by omega) (by decide) w50 (rc_F F51 (Or.inl (by decide)) (by decide) (rc_F F28 (Or.inl (by decide)) (by decide) (hy))) (rc_F F51 (Or.inl (by decide)) (by decide) (rc_F F28 (Or.inl (by decide)) (by decide) (hng))) cv53 (by omega) (by omega)) (fun r54 T56 σ55 gt57 hp => ?_)
    obtain ⟨v60, rfl, rfl, rfl, f58, f59⟩ := hp
    clear gt57
    show Tn _ _ 183 T σ44 [(4, .int (iI 1)), (0, .ref a), (1, .int (iI k)), (2, .int (iI v15)), (3, .int (iI v22))] [.int (iI v60), .int (iI v15), .ref a] _
    refine tn_aload_n dX4_addItem_183 rfl 1 rfl ?_
    refine tn_iload_n dX4_addItem_184 rfl 3 rfl ?_
    have hg9 := hgk k (by omega) (by omega)
    have hg8 := hg9.1.1
    have hg7 := hg9.1.2.1
    refine tn_callV (M := m_X4_addItem) (pc := 185) (ix := 160) (ci := 4) (M' := m_X4_shiftOf) (As := [.int (iI v15)]) (rest := [.int (iI v60), .int (iI v15), .ref a]) dX4_addItem_185 ok_X4_shiftOf im_X4_shiftOf se_X4_shiftOf ml4_160 np_X4_shiftOf rfl rfl ha rfl (Nat.le_of_ble_eq_true rfl) (Nat.le_of_ble_eq_true rfl) rfl (k_X4_shiftOf_x (d) (T := T) (σ := σ44) (a := a) (k := v15) (base := base) (lb := lb) (fb := fb) ha (by omega) w50 (rc_F F51 (Or.inl (by decide)) (by decide) (rc_F F28 (Or.inl (by decide)) (by decide) (hbase))) (rc_F F51 (Or.inl (by decide)) (by decide) (rc_F F28 (Or.inl (by decide)) (by decide) (hlb))) (rc_F F51 (Or.inl (by decide)) (by decide) (rc_F F28 (Or.inl (by decide)) (by decide) (hfb))) (by omega)) (fun r61 T63 σ62 gt64 hp => ?_)
    obtain ⟨v67, rfl, rfl, rfl, f65, f66⟩ := hp
    clear gt64
    show Tn _ _ 188 T σ44 [(4, .int (iI 1)), (0, .ref a), (1, .int (iI k)), (2, .int (iI v15)), (3, .int (iI v22))] [.int (iI v67), .int (iI v60), .int (iI v15), .ref a] _
    have hs9 : v67 = shF fb base lb (Wg k 0) := by rw [f66]; congr 1 <;> omega
    have hs8 : -2147483648 ≤ Wg k 1 + v67 ∧ Wg k 1 + v67 ≤ 2147483647 := by rw [hs9]; have z1 := hg9.2.1; have z2 := hg9.2.2.2; unfold shF; (repeat' split) <;> omega
    refine tn_iadd dX4_addItem_188 ?_
    refine tn_aload_n dX4_addItem_189 rfl 1 rfl ?_
    refine tn_getR (ci := 4) (i := 3) (n := 26) (x := g) dX4_addItem_190 rfl lay_4 (by decide) fl4_33 ha rfl rfl (rc_F F51 (Or.inl (by decide)) (by decide) (rc_F F28 (Or.inl (by decide)) (by decide) (hg))) ?_
    refine tn_iload_n dX4_addItem_193 rfl 2 rfl ?_
    refine tn_iconst dX4_addItem_194 ?_
    refine tn_callV (M := m_X4_addItem) (pc := 195) (ix := 29) (ci := 1) (M' := m_X1_get) (As := [.int (iI k), .int (iI 2)]) (rest := [.int (iI (v60 + v67)), .int (iI v15), .ref a]) dX4_addItem_195 ok_X1_get im_X1_get se_X1_get ml4_29 np_X1_get rfl rfl hk3o rfl (Nat.le_of_ble_eq_true rfl) (Nat.le_of_ble_eq_true rfl) rfl (k_X1_get_x (d + 1) (T := T) (σ := σ44) (a := g) (k := k) (c := 2) (x := y) (n := ng) (W := Wg) hk3o (by omega) (by decide) w50 (rc_F F51 (Or.inl (by decide)) (by decide) (rc_F F28 (Or.inl (by decide)) (by decide) (hy))) (rc_F F51 (Or.inl (by decide)) (by decide) (rc_F F28 (Or.inl (by decide)) (by decide) (hng))) cv53 (by omega) (by omega)) (fun r68 T70 σ69 gt71 hp => ?_)
    obtain ⟨v74, rfl, rfl, rfl, f72, f73⟩ := hp
    clear gt71
    show Tn _ _ 198 T σ44 [(4, .int (iI 1)), (0, .ref a), (1, .int (iI k)), (2, .int (iI v15)), (3, .int (iI v22))] [.int (iI v74), .int (iI (v60 + v67)), .int (iI v15), .ref a] _
    refine tn_iload dX4_addItem_198 0 rfl ?_
    refine tn_if_eq (tgt := 210) dX4_addItem_200 (by decide) ⟨by decide, by decide⟩ (fun h => absurd h (by decide)) (fun _ => ?_)
    refine tn_aload_n dX4_addItem_203 rfl 1 rfl ?_
    refine tn_getI (ci := 4) (i := 6) (n := 29) (t := σ.2.1 29 a) dX4_addItem_204 rfl lay_4 (by decide) fl4_69 ha rfl rfl (rc_F F51 (Or.inl (by decide)) (by decide) (rc_F F28 (Or.inl (by decide)) (by decide) (rfl))) ?_
    have g76 : ((-2147483648 : Int) ≤ σ.2.1 29 a ∧ σ.2.1 29 a ≤ 2147483647) := wf_29 hw ha
    refine tn_goto (tgt := 211) dX4_addItem_207 (by decide) ?_
    have hg6 := hg9.2.2.1
    refine tn_iadd dX4_addItem_211 ?_
    refine tn_callV (M := m_X4_addItem) (pc := 212) (ix := 148) (ci := 4) (M' := m_X4_addRow) (As := [.int (iI v15), .int (iI (v60 + v67)), .int (iI (v74 + (σ.2.1 29 a)))]) (rest := []) dX4_addItem_212 ok_X4_addRow im_X4_addRow se_X4_addRow ml4_148 np_X4_addRow rfl rfl ha rfl (Nat.le_of_ble_eq_true rfl) (Nat.le_of_ble_eq_true rfl) rfl (k_X4_addRow_x (d) (T := T) (σ := σ44) (a := a) (p1 := v15) (p2 := v60 + v67) (p3 := v74 + (σ.2.1 29 a)) (h := h) (x := x) (n := n) (W := cW σ44 x n) (rz := rz) ha (by omega) (by omega) (by omega) w50 (rc_F F51 (Or.inl (by decide)) (by decide) (rc_F F28 (Or.inl (by decide)) (by decide) (hh))) (rc_F F51 (Or.inl (by decide)) (by decide) (rc_F F28 (Or.inl (by decide)) (by decide) (hx))) (rc_F F51 (Or.inl (by decide)) (by decide) (rc_F F28 (Or.inl (by decide)) (by decide) (hn))) rfl (rc_F F51 (Or.inl (by decide)) (by decide) (rc_F F28 (Or.inl (by decide)) (by decide) (hrz))) (by omega) (by omega)) (fun r77 T79 σ78 gt80 hp => ?_)
    obtain ⟨rfl, rfl, w85, F86, f81, f82, f83⟩ := hp
    clear gt80
    show Tn _ _ 215 T σ78 [(4, .int (iI 1)), (0, .ref a), (1, .int (iI k)), (2, .int (iI v15)), (3, .int (iI v22))] [] _
    exact tn_vret rfl dX4_addItem_215 ⟨rfl, rfl, w85, (((FrC.rfl.trans (FrC.sub F28 (by decide))).trans (FrC.sub F51 (by decide))).trans (FrC.sub F86 (by decide))), (((CHX.rfl.trans (CHX.sub f30 (by simp) (by simp) (by simp))).trans (CHX.sub f47 (by simp) (by simp) (by simp))).trans (CHX.sub f81 (by simp) (by simp) (by simp))), (by have z1 := f48; (first | rw [hrz] at z1 | skip); have z2 := f82; (first | rw [hrz] at z2 | skip); exact am_mk f31 (by omega) z1 z2 (by omega) (by omega) (by rw [← hs9]; omega) (by split <;> omega)), (f83.trans (by omega))⟩
  · refine tn_iload_n dX4_addItem_159 rfl 2 rfl ?_
    refine tn_bipush dX4_addItem_160 (by decide) ?_
    refine tn_icmp_ne (tgt := 169) dX4_addItem_162 (by decide) ⟨by omega, by omega⟩ ⟨by decide, by decide⟩ (fun h87 => ?_) (fun h87 => ?_)
    · refine tn_iconst dX4_addItem_169 ?_
      refine tn_istore (L' := [(4, .int (iI 0)), (0, .ref a), (1, .int (iI k)), (2, .int (iI v15)), (3, .int (iI v22))]) dX4_addItem_170 (by decide) rfl ?_
      refine tn_aload_n dX4_addItem_172 rfl 1 rfl ?_
      refine tn_iload_n dX4_addItem_173 rfl 3 rfl ?_
      refine tn_aload_n dX4_addItem_174 rfl 1 rfl ?_
      refine tn_getR (ci := 4) (i := 3) (n := 26) (x := g) dX4_addItem_175 rfl lay_4 (by decide) fl4_33 ha rfl rfl (rc_F F51 (Or.inl (by decide)) (by decide) (rc_F F28 (Or.inl (by decide)) (by decide) (hg))) ?_
      refine tn_iload_n dX4_addItem_178 rfl 2 rfl ?_
      refine tn_iconst dX4_addItem_179 ?_
      have cv88 : cW σ44 y ng = Wg := (cW_row (CHX.r f47 (by first | (simp; done) | (simp only [List.mem_cons, List.not_mem_nil, or_false, not_or]; first | omega | ((repeat' apply And.intro) <;> first | assumption | (apply Ne.symm; assumption)))))).trans ((cW_row (CHX.r f30 (by first | (simp; done) | (simp only [List.mem_cons, List.not_mem_nil, or_false, not_or]; first | omega | ((repeat' apply And.intro) <;> first | assumption | (apply Ne.symm; assumption)))))).trans (hWg))
      refine tn_callV (M := m_X4_addItem) (pc := 180) (ix := 29) (ci := 1) (M' := m_X1_get) (As := [.int (iI k), .int (iI 1)]) (rest := [.int (iI v15), .ref a]) dX4_addItem_180 ok_X1_get im_X1_get se_X1_get ml4_29 np_X1_get rfl rfl hk3o rfl (Nat.le_of_ble_eq_true rfl) (Nat.le_of_ble_eq_true rfl) rfl (k_X1_get_x (d + 1) (T := T) (σ := σ44) (a := g) (k := k) (c := 1) (x := y) (n := ng) (W := Wg) hk3o (by omega) (by decide) w50 (rc_F F51 (Or.inl (by decide)) (by decide) (rc_F F28 (Or.inl (by decide)) (by decide) (hy))) (rc_F F51 (Or.inl (by decide)) (by decide) (rc_F F28 (Or.inl (by decide)) (by decide) (hng))) cv88 (by omega) (by omega)) (fun r89 T91 σ90 gt92 hp => ?_)
      obtain ⟨v95, rfl, rfl, rfl, f93, f94⟩ := hp
      clear gt92
      show Tn _ _ 183 T σ44 [(4, .int (iI 0)), (0, .ref a), (1, .int (iI k)), (2, .int (iI v15)), (3, .int (iI v22))] [.int (iI v95), .int (iI v15), .ref a] _
      refine tn_aload_n dX4_addItem_183 rfl 1 rfl ?_
      refine tn_iload_n dX4_addItem_184 rfl 3 rfl ?_
      have hg9 := hgk k (by omega) (by omega)
      have hg8 := hg9.1.1
      have hg7 := hg9.1.2.1
      refine tn_callV (M := m_X4_addItem) (pc := 185) (ix := 160) (ci := 4) (M' := m_X4_shiftOf) (As := [.int (iI v15)]) (rest := [.int (iI v95), .int (iI v15), .ref a]) dX4_addItem_185 ok_X4_shiftOf im_X4_shiftOf se_X4_shiftOf ml4_160 np_X4_shiftOf rfl rfl ha rfl (Nat.le_of_ble_eq_true rfl) (Nat.le_of_ble_eq_true rfl) rfl (k_X4_shiftOf_x (d) (T := T) (σ := σ44) (a := a) (k := v15) (base := base) (lb := lb) (fb := fb) ha (by omega) w50 (rc_F F51 (Or.inl (by decide)) (by decide) (rc_F F28 (Or.inl (by decide)) (by decide) (hbase))) (rc_F F51 (Or.inl (by decide)) (by decide) (rc_F F28 (Or.inl (by decide)) (by decide) (hlb))) (rc_F F51 (Or.inl (by decide)) (by decide) (rc_F F28 (Or.inl (by decide)) (by decide) (hfb))) (by omega)) (fun r96 T98 σ97 gt99 hp => ?_)
      obtain ⟨v102, rfl, rfl, rfl, f100, f101⟩ := hp
      clear gt99
      show Tn _ _ 188 T σ44 [(4, .int (iI 0)), (0, .ref a), (1, .int (iI k)), (2, .int (iI v15)), (3, .int (iI v22))] [.int (iI v102), .int (iI v95), .int (iI v15), .ref a] _
      have hs9 : v102 = shF fb base lb (Wg k 0) := by rw [f101]; congr 1 <;> omega
      have hs8 : -2147483648 ≤ Wg k 1 + v102 ∧ Wg k 1 + v102 ≤ 2147483647 := by rw [hs9]; have z1 := hg9.2.1; have z2 := hg9.2.2.2; unfold shF; (repeat' split) <;> omega
      refine tn_iadd dX4_addItem_188 ?_
      refine tn_aload_n dX4_addItem_189 rfl 1 rfl ?_
      refine tn_getR (ci := 4) (i := 3) (n := 26) (x := g) dX4_addItem_190 rfl lay_4 (by decide) fl4_33 ha rfl rfl (rc_F F51 (Or.inl (by decide)) (by decide) (rc_F F28 (Or.inl (by decide)) (by decide) (hg))) ?_
      refine tn_iload_n dX4_addItem_193 rfl 2 rfl ?_
      refine tn_iconst dX4_addItem_194 ?_
      refine tn_callV (M := m_X4_addItem) (pc := 195) (ix := 29) (ci := 1) (M' := m_X1_get) (As := [.int (iI k), .int (iI 2)]) (rest := [.int (iI (v95 + v102)), .int (iI v15), .ref a]) dX4_addItem_195 ok_X1_get im_X1_get se_X1_get ml4_29 np_X1_get rfl rfl hk3o rfl (Nat.le_of_ble_eq_true rfl) (Nat.le_of_ble_eq_true rfl) rfl (k_X1_get_x (d + 1) (T := T) (σ := σ44) (a := g) (k := k) (c := 2) (x := y) (n := ng) (W := Wg) hk3o (by omega) (by decide) w50 (rc_F F51 (Or.inl (by decide)) (by decide) (rc_F F28 (Or.inl (by decide)) (by decide) (hy))) (rc_F F51 (Or.inl (by decide)) (by decide) (rc_F F28 (Or.inl (by decide)) (by decide) (hng))) cv88 (by omega) (by omega)) (fun r103 T105 σ104 gt106 hp => ?_)
      obtain ⟨v109, rfl, rfl, rfl, f107, f108⟩ := hp
      clear gt106
      show Tn _ _ 198 T σ44 [(4, .int (iI 0)), (0, .ref a), (1, .int (iI k)), (2, .int (iI v15)), (3, .int (iI v22))] [.int (iI v109), .int (iI (v95 + v102)), .int (iI v15), .ref a] _
      refine tn_iload dX4_addItem_198 0 rfl ?_
      refine tn_if_eq (tgt := 210) dX4_addItem_200 (by decide) ⟨by decide, by decide⟩ (fun _ => ?_) (fun h => absurd h (by decide))
      refine tn_iconst dX4_addItem_210 ?_
      have hg6 := hg9.2.2.1
      refine tn_iadd dX4_addItem_211 ?_
      refine tn_callV (M := m_X4_addItem) (pc := 212) (ix := 148) (ci := 4) (M' := m_X4_addRow) (As := [.int (iI v15), .int (iI (v95 + v102)), .int (iI (v109 + 0))]) (rest := []) dX4_addItem_212 ok_X4_addRow im_X4_addRow se_X4_addRow ml4_148 np_X4_addRow rfl rfl ha rfl (Nat.le_of_ble_eq_true rfl) (Nat.le_of_ble_eq_true rfl) rfl (k_X4_addRow_x (d) (T := T) (σ := σ44) (a := a) (p1 := v15) (p2 := v95 + v102) (p3 := v109 + 0) (h := h) (x := x) (n := n) (W := cW σ44 x n) (rz := rz) ha (by omega) (by omega) (by omega) w50 (rc_F F51 (Or.inl (by decide)) (by decide) (rc_F F28 (Or.inl (by decide)) (by decide) (hh))) (rc_F F51 (Or.inl (by decide)) (by decide) (rc_F F28 (Or.inl (by decide)) (by decide) (hx))) (rc_F F51 (Or.inl (by decide)) (by decide) (rc_F F28 (Or.inl (by decide)) (by decide) (hn))) rfl (rc_F F51 (Or.inl (by decide)) (by decide) (rc_F F28 (Or.inl (by decide)) (by decide) (hrz))) (by omega) (by omega)) (fun r111 T113 σ112 gt114 hp => ?_)
      obtain ⟨rfl, rfl, w119, F120, f115, f116, f117⟩ := hp
      clear gt114
      show Tn _ _ 215 T σ112 [(4, .int (iI 0)), (0, .ref a), (1, .int (iI k)), (2, .int (iI v15)), (3, .int (iI v22))] [] _
      exact tn_vret rfl dX4_addItem_215 ⟨rfl, rfl, w119, (((FrC.rfl.trans (FrC.sub F28 (by decide))).trans (FrC.sub F51 (by decide))).trans (FrC.sub F120 (by decide))), (((CHX.rfl.trans (CHX.sub f30 (by simp) (by simp) (by simp))).trans (CHX.sub f47 (by simp) (by simp) (by simp))).trans (CHX.sub f115 (by simp) (by simp) (by simp))), (by have z1 := f48; (first | rw [hrz] at z1 | skip); have z2 := f116; (first | rw [hrz] at z2 | skip); exact am_mk f31 (by omega) z1 z2 (by omega) (by omega) (by rw [← hs9]; omega) (by split <;> omega)), (f117.trans (by omega))⟩
    · refine tn_iconst dX4_addItem_165 ?_
      refine tn_goto (tgt := 170) dX4_addItem_166 (by decide) ?_
      refine tn_istore (L' := [(4, .int (iI 1)), (0, .ref a), (1, .int (iI k)), (2, .int (iI v15)), (3, .int (iI v22))]) dX4_addItem_170 (by decide) rfl ?_
      refine tn_aload_n dX4_addItem_172 rfl 1 rfl ?_
      refine tn_iload_n dX4_addItem_173 rfl 3 rfl ?_
      refine tn_aload_n dX4_addItem_174 rfl 1 rfl ?_
      refine tn_getR (ci := 4) (i := 3) (n := 26) (x := g) dX4_addItem_175 rfl lay_4 (by decide) fl4_33 ha rfl rfl (rc_F F51 (Or.inl (by decide)) (by decide) (rc_F F28 (Or.inl (by decide)) (by decide) (hg))) ?_
      refine tn_iload_n dX4_addItem_178 rfl 2 rfl ?_
      refine tn_iconst dX4_addItem_179 ?_
      have cv121 : cW σ44 y ng = Wg := (cW_row (CHX.r f47 (by first | (simp; done) | (simp only [List.mem_cons, List.not_mem_nil, or_false, not_or]; first | omega | ((repeat' apply And.intro) <;> first | assumption | (apply Ne.symm; assumption)))))).trans ((cW_row (CHX.r f30 (by first | (simp; done) | (simp only [List.mem_cons, List.not_mem_nil, or_false, not_or]; first | omega | ((repeat' apply And.intro) <;> first | assumption | (apply Ne.symm; assumption)))))).trans (hWg))
      refine tn_callV (M := m_X4_addItem) (pc := 180) (ix := 29) (ci := 1) (M' := m_X1_get) (As := [.int (iI k), .int (iI 1)]) (rest := [.int (iI v15), .ref a]) dX4_addItem_180 ok_X1_get im_X1_get se_X1_get ml4_29 np_X1_get rfl rfl hk3o rfl (Nat.le_of_ble_eq_true rfl) (Nat.le_of_ble_eq_true rfl) rfl (k_X1_get_x (d + 1) (T := T) (σ := σ44) (a := g) (k := k) (c := 1) (x := y) (n := ng) (W := Wg) hk3o (by omega) (by decide) w50 (rc_F F51 (Or.inl (by decide)) (by decide) (rc_F F28 (Or.inl (by decide)) (by decide) (hy))) (rc_F F51 (Or.inl (by decide)) (by decide) (rc_F F28 (Or.inl (by decide)) (by decide) (hng))) cv121 (by omega) (by omega)) (fun r122 T124 σ123 gt125 hp => ?_)
      obtain ⟨v128, rfl, rfl, rfl, f126, f127⟩ := hp
      clear gt125
      show Tn _ _ 183 T σ44 [(4, .int (iI 1)), (0, .ref a), (1, .int (iI k)), (2, .int (iI v15)), (3, .int (iI v22))] [.int (iI v128), .int (iI v15), .ref a] _
      refine tn_aload_n dX4_addItem_183 rfl 1 rfl ?_
      refine tn_iload_n dX4_addItem_184 rfl 3 rfl ?_
      have hg9 := hgk k (by omega) (by omega)
      have hg8 := hg9.1.1
      have hg7 := hg9.1.2.1
      refine tn_callV (M := m_X4_addItem) (pc := 185) (ix := 160) (ci := 4) (M' := m_X4_shiftOf) (As := [.int (iI v15)]) (rest := [.int (iI v128), .int (iI v15), .ref a]) dX4_addItem_185 ok_X4_shiftOf im_X4_shiftOf se_X4_shiftOf ml4_160 np_X4_shiftOf rfl rfl ha rfl (Nat.le_of_ble_eq_true rfl) (Nat.le_of_ble_eq_true rfl) rfl (k_X4_shiftOf_x (d) (T := T) (σ := σ44) (a := a) (k := v15) (base := base) (lb := lb) (fb := fb) ha (by omega) w50 (rc_F F51 (Or.inl (by decide)) (by decide) (rc_F F28 (Or.inl (by decide)) (by decide) (hbase))) (rc_F F51 (Or.inl (by decide)) (by decide) (rc_F F28 (Or.inl (by decide)) (by decide) (hlb))) (rc_F F51 (Or.inl (by decide)) (by decide) (rc_F F28 (Or.inl (by decide)) (by decide) (hfb))) (by omega)) (fun r129 T131 σ130 gt132 hp => ?_)
      obtain ⟨v135, rfl, rfl, rfl, f133, f134⟩ := hp
      clear gt132
      show Tn _ _ 188 T σ44 [(4, .int (iI 1)), (0, .ref a), (1, .int (iI k)), (2, .int (iI v15)), (3, .int (iI v22))] [.int (iI v135), .int (iI v128), .int (iI v15), .ref a] _
      have hs9 : v135 = shF fb base lb (Wg k 0) := by rw [f134]; congr 1 <;> omega
      have hs8 : -2147483648 ≤ Wg k 1 + v135 ∧ Wg k 1 + v135 ≤ 2147483647 := by rw [hs9]; have z1 := hg9.2.1; have z2 := hg9.2.2.2; unfold shF; (repeat' split) <;> omega
      refine tn_iadd dX4_addItem_188 ?_
      refine tn_aload_n dX4_addItem_189 rfl 1 rfl ?_
      refine tn_getR (ci := 4) (i := 3) (n := 26) (x := g) dX4_addItem_190 rfl lay_4 (by decide) fl4_33 ha rfl rfl (rc_F F51 (Or.inl (by decide)) (by decide) (rc_F F28 (Or.inl (by decide)) (by decide) (hg))) ?_
      refine tn_iload_n dX4_addItem_193 rfl 2 rfl ?_
      refine tn_iconst dX4_addItem_194 ?_
      refine tn_callV (M := m_X4_addItem) (pc := 195) (ix := 29) (ci := 1) (M' := m_X1_get) (As := [.int (iI k), .int (iI 2)]) (rest := [.int (iI (v128 + v135)), .int (iI v15), .ref a]) dX4_addItem_195 ok_X1_get im_X1_get se_X1_get ml4_29 np_X1_get rfl rfl hk3o rfl (Nat.le_of_ble_eq_true rfl) (Nat.le_of_ble_eq_true rfl) rfl (k_X1_get_x (d + 1) (T := T) (σ := σ44) (a := g) (k := k) (c := 2) (x := y) (n := ng) (W := Wg) hk3o (by omega) (by decide) w50 (rc_F F51 (Or.inl (by decide)) (by decide) (rc_F F28 (Or.inl (by decide)) (by decide) (hy))) (rc_F F51 (Or.inl (by decide)) (by decide) (rc_F F28 (Or.inl (by decide)) (by decide) (hng))) cv121 (by omega) (by omega)) (fun r136 T138 σ137 gt139 hp => ?_)
      obtain ⟨v142, rfl, rfl, rfl, f140, f141⟩ := hp
      clear gt139
      show Tn _ _ 198 T σ44 [(4, .int (iI 1)), (0, .ref a), (1, .int (iI k)), (2, .int (iI v15)), (3, .int (iI v22))] [.int (iI v142), .int (iI (v128 + v135)), .int (iI v15), .ref a] _
      refine tn_iload dX4_addItem_198 0 rfl ?_
      refine tn_if_eq (tgt := 210) dX4_addItem_200 (by decide) ⟨by decide, by decide⟩ (fun h => absurd h (by decide)) (fun _ => ?_)
      refine tn_aload_n dX4_addItem_203 rfl 1 rfl ?_
      refine tn_getI (ci := 4) (i := 6) (n := 29) (t := σ.2.1 29 a) dX4_addItem_204 rfl lay_4 (by decide) fl4_69 ha rfl rfl (rc_F F51 (Or.inl (by decide)) (by decide) (rc_F F28 (Or.inl (by decide)) (by decide) (rfl))) ?_
      have g144 : ((-2147483648 : Int) ≤ σ.2.1 29 a ∧ σ.2.1 29 a ≤ 2147483647) := wf_29 hw ha
      refine tn_goto (tgt := 211) dX4_addItem_207 (by decide) ?_
      have hg6 := hg9.2.2.1
      refine tn_iadd dX4_addItem_211 ?_
      refine tn_callV (M := m_X4_addItem) (pc := 212) (ix := 148) (ci := 4) (M' := m_X4_addRow) (As := [.int (iI v15), .int (iI (v128 + v135)), .int (iI (v142 + (σ.2.1 29 a)))]) (rest := []) dX4_addItem_212 ok_X4_addRow im_X4_addRow se_X4_addRow ml4_148 np_X4_addRow rfl rfl ha rfl (Nat.le_of_ble_eq_true rfl) (Nat.le_of_ble_eq_true rfl) rfl (k_X4_addRow_x (d) (T := T) (σ := σ44) (a := a) (p1 := v15) (p2 := v128 + v135) (p3 := v142 + (σ.2.1 29 a)) (h := h) (x := x) (n := n) (W := cW σ44 x n) (rz := rz) ha (by omega) (by omega) (by omega) w50 (rc_F F51 (Or.inl (by decide)) (by decide) (rc_F F28 (Or.inl (by decide)) (by decide) (hh))) (rc_F F51 (Or.inl (by decide)) (by decide) (rc_F F28 (Or.inl (by decide)) (by decide) (hx))) (rc_F F51 (Or.inl (by decide)) (by decide) (rc_F F28 (Or.inl (by decide)) (by decide) (hn))) rfl (rc_F F51 (Or.inl (by decide)) (by decide) (rc_F F28 (Or.inl (by decide)) (by decide) (hrz))) (by omega) (by omega)) (fun r145 T147 σ146 gt148 hp => ?_)
      obtain ⟨rfl, rfl, w153, F154, f149, f150, f151⟩ := hp
      clear gt148
      show Tn _ _ 215 T σ146 [(4, .int (iI 1)), (0, .ref a), (1, .int (iI k)), (2, .int (iI v15)), (3, .int (iI v22))] [] _
      exact tn_vret rfl dX4_addItem_215 ⟨rfl, rfl, w153, (((FrC.rfl.trans (FrC.sub F28 (by decide))).trans (FrC.sub F51 (by decide))).trans (FrC.sub F154 (by decide))), (((CHX.rfl.trans (CHX.sub f30 (by simp) (by simp) (by simp))).trans (CHX.sub f47 (by simp) (by simp) (by simp))).trans (CHX.sub f149 (by simp) (by simp) (by simp))), (by have z1 := f48; (first | rw [hrz] at z1 | skip); have z2 := f150; (first | rw [hrz] at z2 | skip); exact am_mk f31 (by omega) z1 z2 (by omega) (by omega) (by rw [← hs9]; omega) (by split <;> omega)), (f151.trans (by omega))⟩
end
