section
set_option maxHeartbeats 1000000 in
set_option maxRecDepth 20000 in
theorem l_X4_meltAt_x_137 (d : Nat) {T : CT} {σ0 : MS} {a : Nat} {c1 : Int} {c2 : Int} {h : Nat} {x : Nat} {n : Int} {W : Int → It} {Fh : Int} {xR : Nat} {Hr : Int → Int} {xP : Nat} {Hp : Int → Int} {xL : Nat} {Hl : Int → Int} {xn : Nat} {Hn : Int → Int} {xh : Nat} {Hh : Int → Int} {g : Nat} {y : Nat} {ng : Int} {Wg : Int → It} {Ng : Int} {P : Int} {Fg : Int} {yR : Nat} {Gr : Int → Int} {yP : Nat} {Gp : Int → Int} {yL : Nat} {Gl : Int → Int} {yn : Nat} {Gn : Int → Int} {yh : Nat} {Gh : Int → Int} {fl : Nat} {xa : Nat} {xo : Nat} {xq : Nat} {Ra : Int → Int} {j0 : Int} {post : Option Value → CT → MS → Prop} (h_a : OB T a 4) (r_c1 : 0 ≤ c1 ∧ c1 ≤ 200) (r_c2 : 0 ≤ c2 ∧ c2 ≤ 1000) (hw0 : WT T σ0) (hkn : 0 ≤ c1 ∧ c1 < n) (hh : σ0.2.1 25 a = (h : Int)) (hx : σ0.2.1 5 h = (x : Int)) (hn : σ0.2.1 6 h = n) (hW : cW σ0 x n = W) (hFh : σ0.2.1 10 h = Fh) (hxR : σ0.2.1 11 h = (xR : Int)) (hHr : σ0.2.1 (1000 + xR) = Hr) (hxP : σ0.2.1 12 h = (xP : Int)) (hHp : σ0.2.1 (1000 + xP) = Hp) (hxL : σ0.2.1 13 h = (xL : Int)) (hHl : σ0.2.1 (1000 + xL) = Hl) (hxn : σ0.2.1 14 h = (xn : Int)) (hHn : σ0.2.1 (1000 + xn) = Hn) (hxh : σ0.2.1 15 h = (xh : Int)) (hHh : σ0.2.1 (1000 + xh) = Hh) (hg : σ0.2.1 26 a = (g : Int)) (hy : σ0.2.1 5 g = (y : Int)) (hng : σ0.2.1 6 g = ng) (hWg : cW σ0 y ng = Wg) (hNg : σ0.2.1 7 g = Ng) (hP : σ0.2.1 8 g = P) (hFg : σ0.2.1 10 g = Fg) (hyR : σ0.2.1 11 g = (yR : Int)) (hGr : σ0.2.1 (1000 + yR) = Gr) (hyP : σ0.2.1 12 g = (yP : Int)) (hGp : σ0.2.1 (1000 + yP) = Gp) (hyL : σ0.2.1 13 g = (yL : Int)) (hGl : σ0.2.1 (1000 + yL) = Gl) (hyn : σ0.2.1 14 g = (yn : Int)) (hGn : σ0.2.1 (1000 + yn) = Gn) (hyh : σ0.2.1 15 g = (yh : Int)) (hGh : σ0.2.1 (1000 + yh) = Gh) (hfl : σ0.2.1 23 a = (fl : Int)) (hxa : σ0.2.1 18 fl = (xa : Int)) (hxo : σ0.2.1 19 fl = (xo : Int)) (hxq : σ0.2.1 24 a = (xq : Int)) (hN : n ≤ 200) (hN2 : ng ≤ 200) (hds : DS [x, xR, xP, xL, xn, xh, y, yR, yP, yL, yn, yh, xq]) (hxao : xa ≠ xo) (hgh9 : g ≠ h) (hx_171 : ∀ (i3 : Int) (σ : MS) , (WT T σ) → (FrC T [] σ0 σ) → (0 ≤ i3 ∧ i3 ≤ 8) → (CHX [] [xq] [] σ0 σ) → (True) → (∀ j, 0 ≤ j → j < 8 → σ.2.1 (1000 + xq) j = W c1 (3 + j)) → Tn (d + 5) m_X4_meltAt 171 T σ [(0, .ref a), (1, .int (iI c1)), (2, .int (iI c2)), (3, .int (iI i3))] [] post) : ∀ (nq9 : Nat) (i3 : Int) (σ : MS) , (WT T σ) → (FrC T [] σ0 σ) → (0 ≤ i3 ∧ i3 ≤ 8) → (CHX [] [xq] [] σ0 σ) → (∀ j, 0 ≤ j → j < i3 → σ.2.1 (1000 + xq) j = W c1 (3 + j)) → (2147483700 - i3).toNat = nq9 → Tn (d + 5) m_X4_meltAt 137 T σ [(0, .ref a), (1, .int (iI c1)), (2, .int (iI c2)), (3, .int (iI i3))] [] post := by
  intro nq9
  induction nq9 using Nat.strongRecOn with
  | _ nq9 ih =>
    intro i3 σ hw hF r_i3 hC hA hm
    refine tn_iload_n dX4_meltAt_137 rfl 3 rfl ?_
    refine tn_aload_n dX4_meltAt_138 rfl 0 rfl ?_
    obtain ⟨hk3, hl4⟩ : AR T xq 1 8 8 := ar_of (wf_24 hw0 h_a) hxq
    have hk3i : IA T xq := by unfold IA; omega
    refine tn_getR (ci := 4) (i := 1) (n := 24) (x := xq) dX4_meltAt_139 rfl lay_4 (by decide) fl4_9 h_a rfl rfl (rc_F hF (Or.inl (by decide)) (by decide) (hxq)) ?_
    refine tn_alenX dX4_meltAt_142 (Or.inl hk3i) ?_
    refine tn_icmp_ge (tgt := 171) dX4_meltAt_143 (by decide) ⟨by omega, by omega⟩ ⟨by omega, by omega⟩ (fun h5 => ?_) (fun h5 => ?_)
    · exact tn_sub [0, 1, 2, 3] rfl (hx_171 (i3) σ hw (FrC.rfl.trans (FrC.sub hF (by decide))) (by omega) hC True.intro (fun j a b => hA j a (by omega)))
    · refine tn_aload_n dX4_meltAt_146 rfl 0 rfl ?_
      refine tn_getR (ci := 4) (i := 1) (n := 24) (x := xq) dX4_meltAt_147 rfl lay_4 (by decide) fl4_9 h_a rfl rfl (rc_F hF (Or.inl (by decide)) (by decide) (hxq)) ?_
      refine tn_iload_n dX4_meltAt_150 rfl 3 rfl ?_
      refine tn_aload_n dX4_meltAt_151 rfl 0 rfl ?_
      have hk8 : (T h).1 = 50 := ob_of ((wf_25 hw0 h_a).resolve_left (by omega)) hh
      have hk8o : OB T h 1 := ⟨by omega, by rw [hk8]; rfl, by omega⟩
      refine tn_getR (ci := 4) (i := 2) (n := 25) (x := h) dX4_meltAt_152 rfl lay_4 (by decide) fl4_19 h_a rfl rfl (rc_F hF (Or.inl (by decide)) (by decide) (hh)) ?_
      refine tn_iload_n dX4_meltAt_155 rfl 1 rfl ?_
      refine tn_iconst dX4_meltAt_156 ?_
      refine tn_iload_n dX4_meltAt_157 rfl 3 rfl ?_
      refine tn_iadd dX4_meltAt_158 ?_
      obtain ⟨hl13, hk12a, hk12b⟩ := cel_of (wf_5 hw0 hk8o) hx
      have hk12 : (T x).1 = 1 := hk12a (by omega)
      clear hk12a hk12b
      have hk12i : IA T x := by unfold IA; omega
      have cv14 : cW σ x n = W := (cW_row (CHX.r hC (by simp only [List.mem_cons, List.not_mem_nil, or_false, not_or]; exact (hds.ne (i := 0) (j := 12) rfl rfl (by decide))))).trans (hW)
      refine tn_callV (M := m_X4_meltAt) (pc := 159) (ix := 29) (ci := 1) (M' := m_X1_get) (As := [.int (iI c1), .int (iI (3 + i3))]) (rest := [.int (iI i3), .ref xq]) dX4_meltAt_159 ok_X1_get im_X1_get se_X1_get ml4_29 np_X1_get rfl rfl hk8o rfl (Nat.le_of_ble_eq_true rfl) (Nat.le_of_ble_eq_true rfl) rfl (k_X1_get_x (d + 3) (T := T) (σ := σ) (a := h) (k := c1) (c := 3 + i3) (x := x) (n := n) (W := W) hk8o (by omega) (by omega) hw (rc_F hF (Or.inl (by decide)) (by decide) (hx)) (rc_F hF (Or.inl (by decide)) (by decide) (hn)) cv14 (by omega) (by omega)) (fun r15 T17 σ16 gt18 hp => ?_)
      obtain ⟨v21, rfl, rfl, rfl, f19, f20⟩ := hp
      clear gt18
      show Tn _ _ 162 T σ [(0, .ref a), (1, .int (iI c1)), (2, .int (iI c2)), (3, .int (iI i3))] [.int (iI v21), .int (iI i3), .ref xq] _
      refine tn_callSN (M := m_X4_meltAt) (pc := 162) (ix := 81) (M' := m_X11_put) (As := [.ref xq, .int (iI i3), .int (iI v21)]) (rest := []) dX4_meltAt_162 ok_X11_put stt_X11_put nl4_81 np_X11_put rfl (Nat.le_of_ble_eq_true rfl) (Nat.le_of_ble_eq_true rfl) rfl (k_X11_put_x (d + 3) (T := T) (σ := σ) (x := xq) (i := i3) (y := v21) hk3i (by omega) (by omega) (by omega) hw (nh_k hk3 (by unfold HT; omega)) (vok_1 (by have q9 := hk3; omega) (by omega))) (fun r22 T24 σ23 gt25 hp => ?_)
      obtain ⟨rfl, rfl, w29, F30, f26, f27⟩ := hp
      clear gt25
      show Tn _ _ 165 T σ23 [(0, .ref a), (1, .int (iI c1)), (2, .int (iI c2)), (3, .int (iI i3))] [] _
      refine tn_iinc (q0 := 3) (L' := [(3, .int (iI (i3 + 1))), (0, .ref a), (1, .int (iI c1)), (2, .int (iI c2))]) dX4_meltAt_165 rfl (by decide) rfl ?_
      refine tn_goto (tgt := 137) dX4_meltAt_168 (by decide) ?_
      exact tn_sub [1, 2, 3, 0] rfl (ih _ (by omega) (i3 + 1) σ23 w29 ((FrC.rfl.trans (FrC.sub hF (by decide))).trans (FrC.sub F30 (by decide))) (by omega) (hC.trans (CHX.sub f26 (by simp) (by simp) (by simp))) (fun j a b => by rw [ptf_row f27 ⟨by omega, by omega⟩]; exact (Classical.em (j = i3)).elim (fun e => by rw [e, uZ_eq]; exact f20) (fun e => by rw [uZ_ne e]; exact hA j a (by omega))) rfl)
set_option maxHeartbeats 1000000 in
set_option maxRecDepth 20000 in
theorem k_X4_meltAt_x (d : Nat) {T : CT} {σ : MS} {a : Nat} {k : Int} {h : Nat} {x : Nat} {n : Int} {W : Int → It} {Fh : Int} {xR : Nat} {Hr : Int → Int} {xP : Nat} {Hp : Int → Int} {xL : Nat} {Hl : Int → Int} {xn : Nat} {Hn : Int → Int} {xh : Nat} {Hh : Int → Int} {g : Nat} {y : Nat} {ng : Int} {Wg : Int → It} {Ng : Int} {P : Int} {Fg : Int} {yR : Nat} {Gr : Int → Int} {yP : Nat} {Gp : Int → Int} {yL : Nat} {Gl : Int → Int} {yn : Nat} {Gn : Int → Int} {yh : Nat} {Gh : Int → Int} {fl : Nat} {xa : Nat} {xo : Nat} {xq : Nat} {Ra : Int → Int} {j0 : Int} (ha : OB T a 4) (h_k : -2147483648 ≤ k ∧ k ≤ 2147483647) (hw : WT T σ) (hh : σ.2.1 25 a = (h : Int)) (hx : σ.2.1 5 h = (x : Int)) (hn : σ.2.1 6 h = n) (hW : cW σ x n = W) (hFh : σ.2.1 10 h = Fh) (hxR : σ.2.1 11 h = (xR : Int)) (hHr : σ.2.1 (1000 + xR) = Hr) (hxP : σ.2.1 12 h = (xP : Int)) (hHp : σ.2.1 (1000 + xP) = Hp) (hxL : σ.2.1 13 h = (xL : Int)) (hHl : σ.2.1 (1000 + xL) = Hl) (hxn : σ.2.1 14 h = (xn : Int)) (hHn : σ.2.1 (1000 + xn) = Hn) (hxh : σ.2.1 15 h = (xh : Int)) (hHh : σ.2.1 (1000 + xh) = Hh) (hg : σ.2.1 26 a = (g : Int)) (hy : σ.2.1 5 g = (y : Int)) (hng : σ.2.1 6 g = ng) (hWg : cW σ y ng = Wg) (hNg : σ.2.1 7 g = Ng) (hP : σ.2.1 8 g = P) (hFg : σ.2.1 10 g = Fg) (hyR : σ.2.1 11 g = (yR : Int)) (hGr : σ.2.1 (1000 + yR) = Gr) (hyP : σ.2.1 12 g = (yP : Int)) (hGp : σ.2.1 (1000 + yP) = Gp) (hyL : σ.2.1 13 g = (yL : Int)) (hGl : σ.2.1 (1000 + yL) = Gl) (hyn : σ.2.1 14 g = (yn : Int)) (hGn : σ.2.1 (1000 + yn) = Gn) (hyh : σ.2.1 15 g = (yh : Int)) (hGh : σ.2.1 (1000 + yh) = Gh) (hfl : σ.2.1 23 a = (fl : Int)) (hxa : σ.2.1 18 fl = (xa : Int)) (hxo : σ.2.1 19 fl = (xo : Int)) (hxq : σ.2.1 24 a = (xq : Int)) (hRa : σ.2.1 (1000 + xq) = Ra) (hN : n ≤ 200) (hN2 : ng ≤ 200) (hds : DS [x, xR, xP, xL, xn, xh, y, yR, yP, yL, yn, yh, xq]) (hxao : xa ≠ xo) (hgh9 : g ≠ h) (hqh : QOK Fh W n) (hna : HNO Hn Hh Fh) (hqk : QOK Fg Wg ng) (hz7 : ∀ j, 0 ≤ j → j < ng → rZ7 (Wg j)) (hmk : MOK Wg ng) (hLk : LNK Wg ng) (hU : UNQ (vW Wg) ng) (hnag : HNO Gn Gh Fg) (hFF : (1 ≤ Fh ∧ Fh ≤ 12) ∧ 1 ≤ Fg ∧ Fg ≤ 12) (hgn : ∀ f, 0 ≤ f → f < Fg → 0 ≤ Gn f ∧ Gn f ≤ 12) (hg0 : Gn 0 = Ng) (hpn : (0 ≤ P ∧ P ≤ 4 ∧ P ≤ Ng) ∧ Ng ≤ 12) (hgp : ∀ f, 0 ≤ f → f < Fg → -1000 ≤ Gp f ∧ Gp f ≤ 100000) (hkn : 0 ≤ k ∧ k < n) (hk10 : W k 0 = 10) (hlA : lnA (vW W) k j0) (hnc : ∀ j, 0 ≤ j → j < ng → Wg j 0 ≠ 10) : Tn (d + 5) m_X4_meltAt 0 T σ [(0, .ref a), (1, .int (iI k))] [] (fun ro T2 σ2 => ∃ v : Int, ro = some (.int (iI v)) ∧ WT T2 σ2 ∧ FrC T [5, 6, 10, 27, 28, 29, 30, 31, 32] σ σ2 ∧ (v = 0 ∨ v = 1) ∧ (CHN T [(27, a), (28, a), (29, a), (30, a), (31, a), (32, a), (5, h), (6, h), (10, h)] [x, xR, xP, xL, xn, xh, xq] [xa, xo] σ σ2) ∧ ((v = 0 ∧ ¬ MCD (vW W) (vW Wg) n ng Ng P Fh Fg Hn Hh Gn Gh ∧ CHX [(27, a), (28, a), (29, a), (30, a), (31, a), (32, a)] [] [xa, xo] σ σ2) ∨ (v = 1 ∧ MCD (vW W) (vW Wg) n ng Ng P Fh Fg Hn Hh Gn Gh ∧ ∃ (x2 : Nat) (base lb lq : Int), mxV (rgV (vW W) n (hmC Fh Hn Hh)) base ∧ mxV (lbV (vW W) n) lb ∧ mxV (lbV (vW Wg) ng) lq ∧ (σ2.2.1 5 h = (x2 : Int) ∧ (x2 = x ∨ (T x2).1 = 0)) ∧ σ2.2.1 6 h = (n + (mkC (vW W) (vW Wg) k Fh base lb lq P Ng ng Gh).1 - 1) ∧ vW (cW σ2 x2 (n + (mkC (vW W) (vW Wg) k Fh base lb lq P Ng ng Gh).1 - 1)) = spV (vW W) k (mkC (vW W) (vW Wg) k Fh base lb lq P Ng ng Gh).1 (mkC (vW W) (vW Wg) k Fh base lb lq P Ng ng Gh).2 ∧ QOK (Fh + Fg) (cW σ2 x2 (n + (mkC (vW W) (vW Wg) k Fh base lb lq P Ng ng Gh).1 - 1)) (n + (mkC (vW W) (vW Wg) k Fh base lb lq P Ng ng Gh).1 - 1) ∧ (∀ j, k ≤ j → j < k + (mkC (vW W) (vW Wg) k Fh base lb lq P Ng ng Gh).1 → cW σ2 x2 (n + (mkC (vW W) (vW Wg) k Fh base lb lq P Ng ng Gh).1 - 1) j 0 ≠ 10) ∧ σ2.2.1 10 h = Fh + Fg ∧ (base ≤ 100 ∧ 1 ≤ (mkC (vW W) (vW Wg) k Fh base lb lq P Ng ng Gh).1) ∧ SPR (σ2.2.1 (1000 + xR)) Hr Gr Fh Fg ∧ SPR (σ2.2.1 (1000 + xP)) Hp (fun f => if f = 0 then W j0 2 else Fh + Gp f) Fh Fg ∧ SPR (σ2.2.1 (1000 + xL)) Hl (fun f => if f = 0 then W j0 1 else Gl f) Fh Fg ∧ SPR (σ2.2.1 (1000 + xn)) Hn Gn Fh Fg ∧ HMR (σ2.2.1 (1000 + xh)) Hh Gn Gh base Fh Fg 0))) := by
  have hh9 : (T h).1 = 50 := ob_of ((wf_25 hw ha).resolve_left (by omega)) hh
  have hh8 : OB T h 1 := ⟨by omega, by rw [hh9]; rfl, by omega⟩
  have hg9 : (T g).1 = 50 := ob_of ((wf_26 hw ha).resolve_left (by omega)) hg
  have hg8 : OB T g 1 := ⟨by omega, by rw [hg9]; rfl, by omega⟩
  have k_x := (cel_of (wf_5 hw hh8) hx).2.1 hh9
  have k_y := (cel_of (wf_5 hw hg8) hy).2.1 hg9
  have k_xq := (ar_of (wf_24 hw ha) hxq).1
  have n_h := wf_6 hw hh8
  have n_g := wf_6 hw hg8
  have k_xR := (ar_of (wf_11 hw hh8) hxR).1
  have k_xP := (ar_of (wf_12 hw hh8) hxP).1
  have k_xL := (ar_of (wf_13 hw hh8) hxL).1
  have k_xn := (ar_of (wf_14 hw hh8) hxn).1
  have k_xh := (ar_of (wf_15 hw hh8) hxh).1
  have k_yR := (ar_of (wf_11 hw hg8) hyR).1
  have k_yP := (ar_of (wf_12 hw hg8) hyP).1
  have k_yL := (ar_of (wf_13 hw hg8) hyL).1
  have k_yn := (ar_of (wf_14 hw hg8) hyn).1
  have k_yh := (ar_of (wf_15 hw hg8) hyh).1
  refine tn_aload_n dX4_meltAt_0 rfl 0 rfl ?_
  have hk3 : (T fl).1 = 33 := ob_of (wf_23 hw ha) hfl
  have hk3o : OB T fl 3 := ⟨by omega, by rw [hk3]; rfl, by omega⟩
  refine tn_getR (ci := 4) (i := 0) (n := 23) (x := fl) dX4_meltAt_1 rfl lay_4 (by decide) fl4_15 ha rfl rfl (hfl) ?_
  refine tn_aload_n dX4_meltAt_4 rfl 0 rfl ?_
  have hk7 : (T g).1 = 50 := ob_of ((wf_26 hw ha).resolve_left (by omega)) hg
  have hk7o : OB T g 1 := ⟨by omega, by rw [hk7]; rfl, by omega⟩
  refine tn_getR (ci := 4) (i := 3) (n := 26) (x := g) dX4_meltAt_5 rfl lay_4 (by decide) fl4_33 ha rfl rfl (hg) ?_
  obtain ⟨hl12, hk11a, hk11b⟩ := cel_of (wf_5 hw hk7o) hy
  have hk11 : (T y).1 = 1 := hk11a (by omega)
  clear hk11a hk11b
  have hk11i : IA T y := by unfold IA; omega
  obtain ⟨hk15, hl16⟩ : AR T xa 3 603 603 := ar_of (wf_18 hw hk3o) hxa
  obtain ⟨hk19, hl20⟩ : AR T xo 3 3 3 := ar_of (wf_19 hw hk3o) hxo
  refine tn_callV (M := m_X4_meltAt) (pc := 8) (ix := 48) (ci := 3) (M' := m_X3_findLiving) (As := [.ref g]) (rest := []) dX4_meltAt_8 ok_X3_findLiving im_X3_findLiving se_X3_findLiving ml4_48 np_X3_findLiving rfl rfl hk3o rfl (Nat.le_of_ble_eq_true rfl) (Nat.le_of_ble_eq_true rfl) rfl (k_X3_findLiving_x (d) (T := T) (σ := σ) (a := fl) (p1 := g) (x := y) (n := ng) (W := Wg) (xa := xa) (La := σ.2.2 xa) (xo := xo) hk3o hk7o hk7 hw (hy) (hng) hWg (hxa) rfl (hxo) (by omega) hxao hqk.w hmk hLk hU) (fun r21 T23 σ22 gt24 hp => ?_)
  obtain ⟨rfl, rfl, w28, F29, f25, f26⟩ := hp
  clear gt24
  show Tn _ _ 11 T σ22 [(0, .ref a), (1, .int (iI k))] [] _
  refine tn_aload_n dX4_meltAt_11 rfl 0 rfl ?_
  refine tn_aload_n dX4_meltAt_12 rfl 0 rfl ?_
  have hk32 : (T h).1 = 50 := ob_of ((wf_25 hw ha).resolve_left (by omega)) hh
  have hk32o : OB T h 1 := ⟨by omega, by rw [hk32]; rfl, by omega⟩
  refine tn_getR (ci := 4) (i := 2) (n := 25) (x := h) dX4_meltAt_13 rfl lay_4 (by decide) fl4_19 ha rfl rfl (rc_F F29 (Or.inl (by decide)) (by decide) (hh)) ?_
  obtain ⟨hl37, hk36a, hk36b⟩ := cel_of (wf_5 hw hk32o) hx
  have hk36 : (T x).1 = 1 := hk36a (by omega)
  clear hk36a hk36b
  have hk36i : IA T x := by unfold IA; omega
  have cv38 : cW σ22 x n = W := (cW_row (CHX.r f25 (by simp))).trans (hW)
  obtain ⟨hk41, hl42⟩ : AR T xn 11 12 12 := ar_of (wf_14 hw hk32o) hxn
  have hk41i : IA T xn := by unfold IA; omega
  have cv43 : σ22.2.1 (1000 + xn) = Hn := (CHX.r f25 (by simp)).trans (hHn)
  obtain ⟨hk46, hl47⟩ : AR T xh 1 144 144 := ar_of (wf_15 hw hk32o) hxh
  have hk46i : IA T xh := by unfold IA; omega
  have cv48 : σ22.2.1 (1000 + xh) = Hh := (CHX.r f25 (by simp)).trans (hHh)
  refine tn_callV (M := m_X4_meltAt) (pc := 16) (ix := 54) (ci := 1) (M' := m_X1_registers) (As := []) (rest := [.ref a]) dX4_meltAt_16 ok_X1_registers im_X1_registers se_X1_registers ml4_54 np_X1_registers rfl rfl hk32o rfl (Nat.le_of_ble_eq_true rfl) (Nat.le_of_ble_eq_true rfl) rfl (k_X1_registers_x (d) (T := T) (σ := σ22) (a := h) (x := x) (n := n) (W := W) (Fq := Fh) (xn := xn) (Rn := Hn) (xh := xh) (Rh := Hh) hk32o w28 (rc_F F29 (Or.inl (by decide)) (by decide) (hx)) (rc_F F29 (Or.inl (by decide)) (by decide) (hn)) cv38 (rc_F F29 (Or.inl (by decide)) (by decide) (hFh)) (rc_F F29 (Or.inl (by decide)) (by decide) (hxn)) cv43 (rc_F F29 (Or.inl (by decide)) (by decide) (hxh)) cv48 (by omega) hqh.w hna) (fun r49 T51 σ50 gt52 hp => ?_)
  obtain ⟨v55, rfl, rfl, rfl, f53, f54⟩ := hp
  clear gt52
  show Tn _ _ 19 T σ22 [(0, .ref a), (1, .int (iI k))] [.int (iI v55), .ref a] _
  refine tn_putV (ci := 4) (i := 4) (n := 27) (r := false) (v := v55) tyX4 tyX4_ok nmX4 dX4_meltAt_19 rfl lay_4 (by decide) fl4_57 rfl (tyX4_ok 4 (by decide)) rfl rfl rfl ha rfl rfl ?_
  refine tn_aload_n dX4_meltAt_22 rfl 0 rfl ?_
  refine tn_aload_n dX4_meltAt_23 rfl 0 rfl ?_
  refine tn_getR (ci := 4) (i := 2) (n := 25) (x := h) dX4_meltAt_24 rfl lay_4 (by decide) fl4_19 ha rfl rfl (rc_o (by decide) (rc_F F29 (Or.inl (by decide)) (by decide) (hh))) ?_
  have cv56 : cW (sA 27 a (v55) σ22) x n = W := (cW_fld (by decide)).trans (cv38)
  refine tn_callV (M := m_X4_meltAt) (pc := 27) (ix := 60) (ci := 1) (M' := m_X1_greatestLabel) (As := []) (rest := [.ref a]) dX4_meltAt_27 ok_X1_greatestLabel im_X1_greatestLabel se_X1_greatestLabel ml4_60 np_X1_greatestLabel rfl rfl hk32o rfl (Nat.le_of_ble_eq_true rfl) (Nat.le_of_ble_eq_true rfl) rfl (k_X1_greatestLabel_x (d + 2) (T := T) (σ := (sA 27 a (v55) σ22)) (a := h) (x := x) (n := n) (W := W) hk32o (w28.put (by decide) (by decide) (fo_27 (by omega))) (rc_o (by decide) (rc_F F29 (Or.inl (by decide)) (by decide) (hx))) (rc_o (by decide) (rc_F F29 (Or.inl (by decide)) (by decide) (hn))) cv56 (by omega) (fun k a b q => by have z := (hqh k a b).2.1 q; omega)) (fun r57 T59 σ58 gt60 hp => ?_)
  obtain ⟨v63, rfl, rfl, rfl, f61, f62⟩ := hp
  clear gt60
  show Tn _ _ 30 T (sA 27 a (v55) σ22) [(0, .ref a), (1, .int (iI k))] [.int (iI v63), .ref a] _
  have l19 := lb_le f62 hqh (by omega)
  have l18 := f62.1
  refine tn_iconst dX4_meltAt_30 ?_
  refine tn_iadd dX4_meltAt_31 ?_
  refine tn_putV (ci := 4) (i := 5) (n := 28) (r := false) (v := v63 + 1) tyX4 tyX4_ok nmX4 dX4_meltAt_32 rfl lay_4 (by decide) fl4_63 rfl (tyX4_ok 5 (by decide)) rfl rfl rfl ha rfl rfl ?_
  refine tn_aload_n dX4_meltAt_35 rfl 0 rfl ?_
  refine tn_aload_n dX4_meltAt_36 rfl 0 rfl ?_
  refine tn_getR (ci := 4) (i := 2) (n := 25) (x := h) dX4_meltAt_37 rfl lay_4 (by decide) fl4_19 ha rfl rfl (rc_o (by decide) (rc_o (by decide) (rc_F F29 (Or.inl (by decide)) (by decide) (hh)))) ?_
  refine tn_getI (ci := 1) (i := 5) (n := 10) (t := σ.2.1 10 h) dX4_meltAt_40 rfl lay_1 (by decide) fl4_66 hk32o rfl rfl (rc_o (by decide) (rc_o (by decide) (rc_F F29 (Or.inl (by decide)) (by decide) (rfl)))) ?_
  have g64 : ((0 : Int) ≤ σ.2.1 10 h ∧ σ.2.1 10 h ≤ 12) := wf_10 hw hk32o
  refine tn_putV (ci := 4) (i := 6) (n := 29) (r := false) (v := σ.2.1 10 h) tyX4 tyX4_ok nmX4 dX4_meltAt_43 rfl lay_4 (by decide) fl4_69 rfl (tyX4_ok 6 (by decide)) rfl rfl rfl ha rfl rfl ?_
  refine tn_aload_n dX4_meltAt_46 rfl 0 rfl ?_
  refine tn_aload_n dX4_meltAt_47 rfl 0 rfl ?_
  refine tn_getI (ci := 4) (i := 5) (n := 28) (t := v63 + 1) dX4_meltAt_48 rfl lay_4 (by decide) fl4_63 ha rfl rfl (rc_o (by decide) (ra_eq)) ?_
  refine tn_aload_n dX4_meltAt_51 rfl 0 rfl ?_
  refine tn_getR (ci := 4) (i := 3) (n := 26) (x := g) dX4_meltAt_52 rfl lay_4 (by decide) fl4_33 ha rfl rfl (rc_o (by decide) (rc_o (by decide) (rc_o (by decide) (rc_F F29 (Or.inl (by decide)) (by decide) (hg))))) ?_
  have cv65 : cW (sA 29 a (σ.2.1 10 h) (sA 28 a (v63 + 1) (sA 27 a (v55) σ22))) y ng = Wg := (cW_fld (by decide)).trans ((cW_fld (by decide)).trans ((cW_fld (by decide)).trans ((cW_row (CHX.r f25 (by simp))).trans (hWg))))
  refine tn_callV (M := m_X4_meltAt) (pc := 55) (ix := 60) (ci := 1) (M' := m_X1_greatestLabel) (As := []) (rest := [.int (iI (v63 + 1)), .ref a]) dX4_meltAt_55 ok_X1_greatestLabel im_X1_greatestLabel se_X1_greatestLabel ml4_60 np_X1_greatestLabel rfl rfl hk7o rfl (Nat.le_of_ble_eq_true rfl) (Nat.le_of_ble_eq_true rfl) rfl (k_X1_greatestLabel_x (d + 2) (T := T) (σ := (sA 29 a (σ.2.1 10 h) (sA 28 a (v63 + 1) (sA 27 a (v55) σ22)))) (a := g) (x := y) (n := ng) (W := Wg) hk7o (((w28.put (by decide) (by decide) (fo_27 (by omega))).put (by decide) (by decide) (fo_28 (by omega))).put (by decide) (by decide) (fo_29 (by omega))) (rc_o (by decide) (rc_o (by decide) (rc_o (by decide) (rc_F F29 (Or.inl (by decide)) (by decide) (hy))))) (rc_o (by decide) (rc_o (by decide) (rc_o (by decide) (rc_F F29 (Or.inl (by decide)) (by decide) (hng))))) cv65 (by omega) (fun k a b q => by have z := (hqk k a b).2.1 q; omega)) (fun r66 T68 σ67 gt69 hp => ?_)
  obtain ⟨v72, rfl, rfl, rfl, f70, f71⟩ := hp
  clear gt69
  show Tn _ _ 58 T (sA 29 a (σ.2.1 10 h) (sA 28 a (v63 + 1) (sA 27 a (v55) σ22))) [(0, .ref a), (1, .int (iI k))] [.int (iI v72), .int (iI (v63 + 1)), .ref a] _
  have l29 := lb_le f71 hqk (by omega)
  have l28 := f71.1
  refine tn_iadd dX4_meltAt_58 ?_
  refine tn_iconst dX4_meltAt_59 ?_
  refine tn_iadd dX4_meltAt_60 ?_
  refine tn_putV (ci := 4) (i := 7) (n := 30) (r := false) (v := ((v63 + 1) + v72) + 1) tyX4 tyX4_ok nmX4 dX4_meltAt_61 rfl lay_4 (by decide) fl4_72 rfl (tyX4_ok 7 (by decide)) rfl rfl rfl ha rfl rfl ?_
  refine tn_aload_n dX4_meltAt_64 rfl 0 rfl ?_
  have cv73 : cW (sA 30 a (((v63 + 1) + v72) + 1) (sA 29 a (σ.2.1 10 h) (sA 28 a (v63 + 1) (sA 27 a (v55) σ22)))) y ng = Wg := (cW_fld (by decide)).trans (cv65)
  have cv74 : (sA 30 a (((v63 + 1) + v72) + 1) (sA 29 a (σ.2.1 10 h) (sA 28 a (v63 + 1) (sA 27 a (v55) σ22)))).2.2 xa = σ22.2.2 xa := (lv_fld (by decide)).trans ((lv_fld (by decide)).trans ((lv_fld (by decide)).trans ((lv_fld (by decide)).trans (rfl))))
  obtain ⟨hk77, hl78⟩ : AR T yh 1 144 144 := ar_of (wf_15 hw hk7o) hyh
  have hk77i : IA T yh := by unfold IA; omega
  have cv79 : (sA 30 a (((v63 + 1) + v72) + 1) (sA 29 a (σ.2.1 10 h) (sA 28 a (v63 + 1) (sA 27 a (v55) σ22)))).2.1 (1000 + yh) = Gh := (rv_fld (by decide)).trans ((rv_fld (by decide)).trans ((rv_fld (by decide)).trans ((rv_fld (by decide)).trans ((CHX.r f25 (by simp)).trans (hGh)))))
  refine tn_callV (M := m_X4_meltAt) (pc := 65) (ix := 75) (ci := 4) (M' := m_X4_rowsNeeded) (As := []) (rest := []) dX4_meltAt_65 ok_X4_rowsNeeded im_X4_rowsNeeded se_X4_rowsNeeded ml4_75 np_X4_rowsNeeded rfl rfl ha rfl (Nat.le_of_ble_eq_true rfl) (Nat.le_of_ble_eq_true rfl) rfl (k_X4_rowsNeeded_x (d) (T := T) (σ := (sA 30 a (((v63 + 1) + v72) + 1) (sA 29 a (σ.2.1 10 h) (sA 28 a (v63 + 1) (sA 27 a (v55) σ22))))) (a := a) (g := g) (y := y) (ng := ng) (Wg := Wg) (Ng := Ng) (fl := fl) (xa := xa) (La := σ22.2.2 xa) (P := P) (yh := yh) (Rg := Gh) ha ((((w28.put (by decide) (by decide) (fo_27 (by omega))).put (by decide) (by decide) (fo_28 (by omega))).put (by decide) (by decide) (fo_29 (by omega))).put (by decide) (by decide) (fo_30 (by omega))) (rc_o (by decide) (rc_o (by decide) (rc_o (by decide) (rc_o (by decide) (rc_F F29 (Or.inl (by decide)) (by decide) (hg)))))) (rc_o (by decide) (rc_o (by decide) (rc_o (by decide) (rc_o (by decide) (rc_F F29 (Or.inl (by decide)) (by decide) (hy)))))) (rc_o (by decide) (rc_o (by decide) (rc_o (by decide) (rc_o (by decide) (rc_F F29 (Or.inl (by decide)) (by decide) (hng)))))) cv73 (rc_o (by decide) (rc_o (by decide) (rc_o (by decide) (rc_o (by decide) (rc_F F29 (Or.inl (by decide)) (by decide) (hNg)))))) (rc_o (by decide) (rc_o (by decide) (rc_o (by decide) (rc_o (by decide) (rc_F F29 (Or.inl (by decide)) (by decide) (hfl)))))) (rc_o (by decide) (rc_o (by decide) (rc_o (by decide) (rc_o (by decide) (rc_F F29 (Or.inl (by decide)) (by decide) (hxa)))))) cv74 (rc_o (by decide) (rc_o (by decide) (rc_o (by decide) (rc_o (by decide) (rc_F F29 (Or.inl (by decide)) (by decide) (hP)))))) (rc_o (by decide) (rc_o (by decide) (rc_o (by decide) (rc_o (by decide) (rc_F F29 (Or.inl (by decide)) (by decide) (hyh)))))) cv79 (by omega)) (fun r80 T82 σ81 gt83 hp => ?_)
  obtain ⟨v86, rfl, rfl, rfl, f84, f85⟩ := hp
  clear gt83
  show Tn _ _ 68 T (sA 30 a (((v63 + 1) + v72) + 1) (sA 29 a (σ.2.1 10 h) (sA 28 a (v63 + 1) (sA 27 a (v55) σ22)))) [(0, .ref a), (1, .int (iI k))] [.int (iI v86)] _
  have cn9 := nn_cn (Gh := Gh) (P := P) f26 (by omega)
  have c79 := c7_v (Wg := Wg) (k := ng.toNat)
  have rn9 : v86 = 3 + ng + Ng + P + cN (fun j => vW Wg j 0 = 7) 0 ng.toNat + cN (lvQ (vW Wg) ng Gh P) 0 192 := by have z := f85; rw [c79] at z; rw [← cn9]; exact z
  have cb9 := cN_b (P := fun j => vW Wg j 0 = 7) (k := ng) (by omega)
  have cb8 := cN_b (P := lvQ (vW Wg) ng Gh P) (k := 192) (by decide)
  have cb7 : cN (lvQ (vW Wg) ng Gh P) 0 (192 : Int).toNat = cN (lvQ (vW Wg) ng Gh P) 0 192 := rfl
  refine tn_iconst dX4_meltAt_68 ?_
  refine tn_isub dX4_meltAt_69 ?_
  refine tn_istore_n (L' := [(2, .int (iI (v86 - 1))), (0, .ref a), (1, .int (iI k))]) dX4_meltAt_70 rfl (by decide) rfl ?_
  refine tn_aload_n dX4_meltAt_71 rfl 1 rfl ?_
  refine tn_getR (ci := 4) (i := 2) (n := 25) (x := h) dX4_meltAt_72 rfl lay_4 (by decide) fl4_19 ha rfl rfl (rc_o (by decide) (rc_o (by decide) (rc_o (by decide) (rc_o (by decide) (rc_F F29 (Or.inl (by decide)) (by decide) (hh)))))) ?_
  refine tn_getI (ci := 1) (i := 1) (n := 6) (t := σ.2.1 6 h) dX4_meltAt_75 rfl lay_1 (by decide) fl4_23 hk32o rfl rfl (rc_o (by decide) (rc_o (by decide) (rc_o (by decide) (rc_o (by decide) (rc_F F29 (Or.inl (by decide)) (by decide) (rfl)))))) ?_
  have g87 : ((0 : Int) ≤ σ.2.1 6 h ∧ σ.2.1 6 h ≤ 5000) ∧ ((T h).1 = 50 → σ.2.1 6 h ≤ 200) := wf_6 hw hk32o
  have g87x := g87.2
  replace g87 := g87.1
  have g87x := g87x hk32
  refine tn_iload_n dX4_meltAt_78 rfl 0 rfl ?_
  refine tn_iadd dX4_meltAt_79 ?_
  refine tn_sipush dX4_meltAt_80 (by decide) ?_
  refine tn_icmp_gt (tgt := 120) dX4_meltAt_83 (by decide) ⟨by omega, by omega⟩ ⟨by decide, by decide⟩ (fun h88 => ?_) (fun h88 => ?_)
  · refine tn_iconst dX4_meltAt_120 ?_
    exact tn_zret (v := 0) rfl (by decide) dX4_meltAt_121 ⟨_, rfl, ((((w28.put (by decide) (by decide) (fo_27 (by omega))).put (by decide) (by decide) (fo_28 (by omega))).put (by decide) (by decide) (fo_29 (by omega))).put (by decide) (by decide) (fo_30 (by omega))), (((((FrC.rfl.trans (FrC.sub F29 (by decide))).put (by decide) (by decide)).put (by decide) (by decide)).put (by decide) (by decide)).put (by decide) (by decide)), by omega, (((((CHN.rfl.trans (CHN.of f25 (by simp) (fun z q => Or.inl (by revert q; simp; try omega)) (by simp))).fld (by simp) (by decide)).fld (by simp) (by decide)).fld (by simp) (by decide)).fld (by simp) (by decide)), Or.inl ⟨rfl, (fun q => by have z1 := q.1; have z2 := q.2.2; omega), (((((CHX.rfl.trans (CHX.sub f25 (by simp) (by simp) (by simp))).fld (by simp) (by decide)).fld (by simp) (by decide)).fld (by simp) (by decide)).fld (by simp) (by decide))⟩⟩
  · refine tn_aload_n dX4_meltAt_86 rfl 1 rfl ?_
    refine tn_getI (ci := 4) (i := 6) (n := 29) (t := σ.2.1 10 h) dX4_meltAt_87 rfl lay_4 (by decide) fl4_69 ha rfl rfl (rc_o (by decide) (ra_eq)) ?_
    refine tn_aload_n dX4_meltAt_90 rfl 1 rfl ?_
    refine tn_getR (ci := 4) (i := 3) (n := 26) (x := g) dX4_meltAt_91 rfl lay_4 (by decide) fl4_33 ha rfl rfl (rc_o (by decide) (rc_o (by decide) (rc_o (by decide) (rc_o (by decide) (rc_F F29 (Or.inl (by decide)) (by decide) (hg)))))) ?_
    refine tn_getI (ci := 1) (i := 5) (n := 10) (t := σ.2.1 10 g) dX4_meltAt_94 rfl lay_1 (by decide) fl4_66 hk7o rfl rfl (rc_o (by decide) (rc_o (by decide) (rc_o (by decide) (rc_o (by decide) (rc_F F29 (Or.inl (by decide)) (by decide) (rfl)))))) ?_
    have g89 : ((0 : Int) ≤ σ.2.1 10 g ∧ σ.2.1 10 g ≤ 12) := wf_10 hw hk7o
    refine tn_iadd dX4_meltAt_97 ?_
    refine tn_bipush dX4_meltAt_98 (by decide) ?_
    refine tn_icmp_gt (tgt := 120) dX4_meltAt_100 (by decide) ⟨by omega, by omega⟩ ⟨by decide, by decide⟩ (fun h90 => ?_) (fun h90 => ?_)
    · refine tn_iconst dX4_meltAt_120 ?_
      exact tn_zret (v := 0) rfl (by decide) dX4_meltAt_121 ⟨_, rfl, ((((w28.put (by decide) (by decide) (fo_27 (by omega))).put (by decide) (by decide) (fo_28 (by omega))).put (by decide) (by decide) (fo_29 (by omega))).put (by decide) (by decide) (fo_30 (by omega))), (((((FrC.rfl.trans (FrC.sub F29 (by decide))).put (by decide) (by decide)).put (by decide) (by decide)).put (by decide) (by decide)).put (by decide) (by decide)), by omega, (((((CHN.rfl.trans (CHN.of f25 (by simp) (fun z q => Or.inl (by revert q; simp; try omega)) (by simp))).fld (by simp) (by decide)).fld (by simp) (by decide)).fld (by simp) (by decide)).fld (by simp) (by decide)), Or.inl ⟨rfl, (fun q => by have z1 := q.1; have z2 := q.2.2; omega), (((((CHX.rfl.trans (CHX.sub f25 (by simp) (by simp) (by simp))).fld (by simp) (by decide)).fld (by simp) (by decide)).fld (by simp) (by decide)).fld (by simp) (by decide))⟩⟩
    · refine tn_aload_n dX4_meltAt_103 rfl 1 rfl ?_
      refine tn_getI (ci := 4) (i := 4) (n := 27) (t := v55) dX4_meltAt_104 rfl lay_4 (by decide) fl4_57 ha rfl rfl (rc_o (by decide) (rc_o (by decide) (rc_o (by decide) (ra_eq)))) ?_
      refine tn_aload_n dX4_meltAt_107 rfl 1 rfl ?_
      refine tn_getR (ci := 4) (i := 3) (n := 26) (x := g) dX4_meltAt_108 rfl lay_4 (by decide) fl4_33 ha rfl rfl (rc_o (by decide) (rc_o (by decide) (rc_o (by decide) (rc_o (by decide) (rc_F F29 (Or.inl (by decide)) (by decide) (hg)))))) ?_
      obtain ⟨hk93, hl94⟩ : AR T yn 11 12 12 := ar_of (wf_14 hw hk7o) hyn
      have hk93i : IA T yn := by unfold IA; omega
      have cv95 : (sA 30 a (((v63 + 1) + v72) + 1) (sA 29 a (σ.2.1 10 h) (sA 28 a (v63 + 1) (sA 27 a (v55) σ22)))).2.1 (1000 + yn) = Gn := (rv_fld (by decide)).trans ((rv_fld (by decide)).trans ((rv_fld (by decide)).trans ((rv_fld (by decide)).trans ((CHX.r f25 (by simp)).trans (hGn)))))
      refine tn_callV (M := m_X4_meltAt) (pc := 111) (ix := 54) (ci := 1) (M' := m_X1_registers) (As := []) (rest := [.int (iI v55)]) dX4_meltAt_111 ok_X1_registers im_X1_registers se_X1_registers ml4_54 np_X1_registers rfl rfl hk7o rfl (Nat.le_of_ble_eq_true rfl) (Nat.le_of_ble_eq_true rfl) rfl (k_X1_registers_x (d) (T := T) (σ := (sA 30 a (((v63 + 1) + v72) + 1) (sA 29 a (σ.2.1 10 h) (sA 28 a (v63 + 1) (sA 27 a (v55) σ22))))) (a := g) (x := y) (n := ng) (W := Wg) (Fq := Fg) (xn := yn) (Rn := Gn) (xh := yh) (Rh := Gh) hk7o ((((w28.put (by decide) (by decide) (fo_27 (by omega))).put (by decide) (by decide) (fo_28 (by omega))).put (by decide) (by decide) (fo_29 (by omega))).put (by decide) (by decide) (fo_30 (by omega))) (rc_o (by decide) (rc_o (by decide) (rc_o (by decide) (rc_o (by decide) (rc_F F29 (Or.inl (by decide)) (by decide) (hy)))))) (rc_o (by decide) (rc_o (by decide) (rc_o (by decide) (rc_o (by decide) (rc_F F29 (Or.inl (by decide)) (by decide) (hng)))))) cv73 (rc_o (by decide) (rc_o (by decide) (rc_o (by decide) (rc_o (by decide) (rc_F F29 (Or.inl (by decide)) (by decide) (hFg)))))) (rc_o (by decide) (rc_o (by decide) (rc_o (by decide) (rc_o (by decide) (rc_F F29 (Or.inl (by decide)) (by decide) (hyn)))))) cv95 (rc_o (by decide) (rc_o (by decide) (rc_o (by decide) (rc_o (by decide) (rc_F F29 (Or.inl (by decide)) (by decide) (hyh)))))) cv79 (by omega) hqk.w hnag) (fun r96 T98 σ97 gt99 hp => ?_)
      obtain ⟨v102, rfl, rfl, rfl, f100, f101⟩ := hp
      clear gt99
      show Tn _ _ 114 T (sA 30 a (((v63 + 1) + v72) + 1) (sA 29 a (σ.2.1 10 h) (sA 28 a (v63 + 1) (sA 27 a (v55) σ22)))) [(2, .int (iI (v86 - 1))), (0, .ref a), (1, .int (iI k))] [.int (iI v102), .int (iI v55)] _
      have gb8 := f101.1
      refine tn_iadd dX4_meltAt_114 ?_
      refine tn_bipush dX4_meltAt_115 (by decide) ?_
      refine tn_icmp_le (tgt := 122) dX4_meltAt_117 (by decide) ⟨by omega, by omega⟩ ⟨by decide, by decide⟩ (fun h103 => ?_) (fun h103 => ?_)
      · have hmc9 : MCD (vW W) (vW Wg) n ng Ng P Fh Fg Hn Hh Gn Gh := ⟨by omega, ⟨_, _, f54, f101, by omega⟩, by omega⟩
        have io9 := (hqh k (by omega) (by omega)).1
        have jl9 := hlA.2.2.1
        rw [vW_0] at jl9
        have jl8 := (hqh j0 hlA.1 (by have := hlA.2.1; omega)).2.2.1 (Or.inl jl9)
        have jl7 := hlA.1
        have jl6 := hlA.2.1
        have gb9 := f101.2.1
        refine tn_aload_n dX4_meltAt_122 rfl 1 rfl ?_
        refine tn_aload_n dX4_meltAt_123 rfl 1 rfl ?_
        refine tn_getR (ci := 4) (i := 2) (n := 25) (x := h) dX4_meltAt_124 rfl lay_4 (by decide) fl4_19 ha rfl rfl (rc_o (by decide) (rc_o (by decide) (rc_o (by decide) (rc_o (by decide) (rc_F F29 (Or.inl (by decide)) (by decide) (hh)))))) ?_
        refine tn_iload_n dX4_meltAt_127 rfl 2 rfl ?_
        refine tn_iconst dX4_meltAt_128 ?_
        have cv104 : cW (sA 30 a (((v63 + 1) + v72) + 1) (sA 29 a (σ.2.1 10 h) (sA 28 a (v63 + 1) (sA 27 a (v55) σ22)))) x n = W := (cW_fld (by decide)).trans ((cW_fld (by decide)).trans ((cW_fld (by decide)).trans (cv56)))
        refine tn_callV (M := m_X4_meltAt) (pc := 129) (ix := 29) (ci := 1) (M' := m_X1_get) (As := [.int (iI k), .int (iI 1)]) (rest := [.ref a]) dX4_meltAt_129 ok_X1_get im_X1_get se_X1_get ml4_29 np_X1_get rfl rfl hk32o rfl (Nat.le_of_ble_eq_true rfl) (Nat.le_of_ble_eq_true rfl) rfl (k_X1_get_x (d + 3) (T := T) (σ := (sA 30 a (((v63 + 1) + v72) + 1) (sA 29 a (σ.2.1 10 h) (sA 28 a (v63 + 1) (sA 27 a (v55) σ22))))) (a := h) (k := k) (c := 1) (x := x) (n := n) (W := W) hk32o (by omega) (by decide) ((((w28.put (by decide) (by decide) (fo_27 (by omega))).put (by decide) (by decide) (fo_28 (by omega))).put (by decide) (by decide) (fo_29 (by omega))).put (by decide) (by decide) (fo_30 (by omega))) (rc_o (by decide) (rc_o (by decide) (rc_o (by decide) (rc_o (by decide) (rc_F F29 (Or.inl (by decide)) (by decide) (hx)))))) (rc_o (by decide) (rc_o (by decide) (rc_o (by decide) (rc_o (by decide) (rc_F F29 (Or.inl (by decide)) (by decide) (hn)))))) cv104 (by omega) (by omega)) (fun r105 T107 σ106 gt108 hp => ?_)
        obtain ⟨v111, rfl, rfl, rfl, f109, f110⟩ := hp
        clear gt108
        show Tn _ _ 132 T (sA 30 a (((v63 + 1) + v72) + 1) (sA 29 a (σ.2.1 10 h) (sA 28 a (v63 + 1) (sA 27 a (v55) σ22)))) [(2, .int (iI (v86 - 1))), (0, .ref a), (1, .int (iI k))] [.int (iI v111), .ref a] _
        refine tn_putV (ci := 4) (i := 8) (n := 31) (r := false) (v := v111) tyX4 tyX4_ok nmX4 dX4_meltAt_132 rfl lay_4 (by decide) fl4_78 rfl (tyX4_ok 8 (by decide)) rfl rfl rfl ha rfl rfl ?_
        refine tn_iconst dX4_meltAt_135 ?_
        refine tn_istore_n (L' := [(3, .int (iI 0)), (2, .int (iI (v86 - 1))), (0, .ref a), (1, .int (iI k))]) dX4_meltAt_136 rfl (by decide) rfl ?_
        have cv112 : cW (sA 31 a (v111) (sA 30 a (((v63 + 1) + v72) + 1) (sA 29 a (σ.2.1 10 h) (sA 28 a (v63 + 1) (sA 27 a (v55) σ22))))) x n = W := (cW_fld (by decide)).trans (cv104)
        have cv113 : (sA 31 a (v111) (sA 30 a (((v63 + 1) + v72) + 1) (sA 29 a (σ.2.1 10 h) (sA 28 a (v63 + 1) (sA 27 a (v55) σ22))))).2.1 (1000 + xR) = Hr := (rv_fld (by decide)).trans ((rv_fld (by decide)).trans ((rv_fld (by decide)).trans ((rv_fld (by decide)).trans ((rv_fld (by decide)).trans ((CHX.r f25 (by simp)).trans (hHr))))))
        have cv114 : (sA 31 a (v111) (sA 30 a (((v63 + 1) + v72) + 1) (sA 29 a (σ.2.1 10 h) (sA 28 a (v63 + 1) (sA 27 a (v55) σ22))))).2.1 (1000 + xP) = Hp := (rv_fld (by decide)).trans ((rv_fld (by decide)).trans ((rv_fld (by decide)).trans ((rv_fld (by decide)).trans ((rv_fld (by decide)).trans ((CHX.r f25 (by simp)).trans (hHp))))))
        have cv115 : (sA 31 a (v111) (sA 30 a (((v63 + 1) + v72) + 1) (sA 29 a (σ.2.1 10 h) (sA 28 a (v63 + 1) (sA 27 a (v55) σ22))))).2.1 (1000 + xL) = Hl := (rv_fld (by decide)).trans ((rv_fld (by decide)).trans ((rv_fld (by decide)).trans ((rv_fld (by decide)).trans ((rv_fld (by decide)).trans ((CHX.r f25 (by simp)).trans (hHl))))))
        have cv116 : (sA 31 a (v111) (sA 30 a (((v63 + 1) + v72) + 1) (sA 29 a (σ.2.1 10 h) (sA 28 a (v63 + 1) (sA 27 a (v55) σ22))))).2.1 (1000 + xn) = Hn := (rv_fld (by decide)).trans ((rv_fld (by decide)).trans ((rv_fld (by decide)).trans ((rv_fld (by decide)).trans ((rv_fld (by decide)).trans (cv43)))))
        have cv117 : (sA 31 a (v111) (sA 30 a (((v63 + 1) + v72) + 1) (sA 29 a (σ.2.1 10 h) (sA 28 a (v63 + 1) (sA 27 a (v55) σ22))))).2.1 (1000 + xh) = Hh := (rv_fld (by decide)).trans ((rv_fld (by decide)).trans ((rv_fld (by decide)).trans ((rv_fld (by decide)).trans ((rv_fld (by decide)).trans (cv48)))))
        have cv118 : cW (sA 31 a (v111) (sA 30 a (((v63 + 1) + v72) + 1) (sA 29 a (σ.2.1 10 h) (sA 28 a (v63 + 1) (sA 27 a (v55) σ22))))) y ng = Wg := (cW_fld (by decide)).trans (cv73)
        have cv119 : (sA 31 a (v111) (sA 30 a (((v63 + 1) + v72) + 1) (sA 29 a (σ.2.1 10 h) (sA 28 a (v63 + 1) (sA 27 a (v55) σ22))))).2.1 (1000 + yR) = Gr := (rv_fld (by decide)).trans ((rv_fld (by decide)).trans ((rv_fld (by decide)).trans ((rv_fld (by decide)).trans ((rv_fld (by decide)).trans ((CHX.r f25 (by simp)).trans (hGr))))))
        have cv120 : (sA 31 a (v111) (sA 30 a (((v63 + 1) + v72) + 1) (sA 29 a (σ.2.1 10 h) (sA 28 a (v63 + 1) (sA 27 a (v55) σ22))))).2.1 (1000 + yP) = Gp := (rv_fld (by decide)).trans ((rv_fld (by decide)).trans ((rv_fld (by decide)).trans ((rv_fld (by decide)).trans ((rv_fld (by decide)).trans ((CHX.r f25 (by simp)).trans (hGp))))))
        have cv121 : (sA 31 a (v111) (sA 30 a (((v63 + 1) + v72) + 1) (sA 29 a (σ.2.1 10 h) (sA 28 a (v63 + 1) (sA 27 a (v55) σ22))))).2.1 (1000 + yL) = Gl := (rv_fld (by decide)).trans ((rv_fld (by decide)).trans ((rv_fld (by decide)).trans ((rv_fld (by decide)).trans ((rv_fld (by decide)).trans ((CHX.r f25 (by simp)).trans (hGl))))))
        have cv122 : (sA 31 a (v111) (sA 30 a (((v63 + 1) + v72) + 1) (sA 29 a (σ.2.1 10 h) (sA 28 a (v63 + 1) (sA 27 a (v55) σ22))))).2.1 (1000 + yn) = Gn := (rv_fld (by decide)).trans (cv95)
        have cv123 : (sA 31 a (v111) (sA 30 a (((v63 + 1) + v72) + 1) (sA 29 a (σ.2.1 10 h) (sA 28 a (v63 + 1) (sA 27 a (v55) σ22))))).2.1 (1000 + yh) = Gh := (rv_fld (by decide)).trans (cv79)
        refine tn_sub [2, 3, 1, 0] rfl (l_X4_meltAt_x_137 (d) (T := T) (σ0 := (sA 31 a (v111) (sA 30 a (((v63 + 1) + v72) + 1) (sA 29 a (σ.2.1 10 h) (sA 28 a (v63 + 1) (sA 27 a (v55) σ22)))))) (a := a) (c1 := k) (c2 := v86 - 1) (h := h) (x := x) (n := n) (W := (W)) (Fh := Fh) (xR := xR) (Hr := (Hr)) (xP := xP) (Hp := (Hp)) (xL := xL) (Hl := (Hl)) (xn := xn) (Hn := (Hn)) (xh := xh) (Hh := (Hh)) (g := g) (y := y) (ng := ng) (Wg := (Wg)) (Ng := Ng) (P := P) (Fg := Fg) (yR := yR) (Gr := (Gr)) (yP := yP) (Gp := (Gp)) (yL := yL) (Gl := (Gl)) (yn := yn) (Gn := (Gn)) (yh := yh) (Gh := (Gh)) (fl := fl) (xa := xa) (xo := xo) (xq := xq) (Ra := Ra) (j0 := j0) ha (by omega) (by omega) (((((w28.put (by decide) (by decide) (fo_27 (by omega))).put (by decide) (by decide) (fo_28 (by omega))).put (by decide) (by decide) (fo_29 (by omega))).put (by decide) (by decide) (fo_30 (by omega))).put (by decide) (by decide) (fo_31 (by omega))) (by omega) (rc_o (by decide) (rc_o (by decide) (rc_o (by decide) (rc_o (by decide) (rc_o (by decide) (rc_F F29 (Or.inl (by decide)) (by decide) (hh))))))) (rc_o (by decide) (rc_o (by decide) (rc_o (by decide) (rc_o (by decide) (rc_o (by decide) (rc_F F29 (Or.inl (by decide)) (by decide) (hx))))))) (rc_o (by decide) (rc_o (by decide) (rc_o (by decide) (rc_o (by decide) (rc_o (by decide) (rc_F F29 (Or.inl (by decide)) (by decide) (hn))))))) cv112 (rc_o (by decide) (rc_o (by decide) (rc_o (by decide) (rc_o (by decide) (rc_o (by decide) (rc_F F29 (Or.inl (by decide)) (by decide) (hFh))))))) (rc_o (by decide) (rc_o (by decide) (rc_o (by decide) (rc_o (by decide) (rc_o (by decide) (rc_F F29 (Or.inl (by decide)) (by decide) (hxR))))))) cv113 (rc_o (by decide) (rc_o (by decide) (rc_o (by decide) (rc_o (by decide) (rc_o (by decide) (rc_F F29 (Or.inl (by decide)) (by decide) (hxP))))))) cv114 (rc_o (by decide) (rc_o (by decide) (rc_o (by decide) (rc_o (by decide) (rc_o (by decide) (rc_F F29 (Or.inl (by decide)) (by decide) (hxL))))))) cv115 (rc_o (by decide) (rc_o (by decide) (rc_o (by decide) (rc_o (by decide) (rc_o (by decide) (rc_F F29 (Or.inl (by decide)) (by decide) (hxn))))))) cv116 (rc_o (by decide) (rc_o (by decide) (rc_o (by decide) (rc_o (by decide) (rc_o (by decide) (rc_F F29 (Or.inl (by decide)) (by decide) (hxh))))))) cv117 (rc_o (by decide) (rc_o (by decide) (rc_o (by decide) (rc_o (by decide) (rc_o (by decide) (rc_F F29 (Or.inl (by decide)) (by decide) (hg))))))) (rc_o (by decide) (rc_o (by decide) (rc_o (by decide) (rc_o (by decide) (rc_o (by decide) (rc_F F29 (Or.inl (by decide)) (by decide) (hy))))))) (rc_o (by decide) (rc_o (by decide) (rc_o (by decide) (rc_o (by decide) (rc_o (by decide) (rc_F F29 (Or.inl (by decide)) (by decide) (hng))))))) cv118 (rc_o (by decide) (rc_o (by decide) (rc_o (by decide) (rc_o (by decide) (rc_o (by decide) (rc_F F29 (Or.inl (by decide)) (by decide) (hNg))))))) (rc_o (by decide) (rc_o (by decide) (rc_o (by decide) (rc_o (by decide) (rc_o (by decide) (rc_F F29 (Or.inl (by decide)) (by decide) (hP))))))) (rc_o (by decide) (rc_o (by decide) (rc_o (by decide) (rc_o (by decide) (rc_o (by decide) (rc_F F29 (Or.inl (by decide)) (by decide) (hFg))))))) (rc_o (by decide) (rc_o (by decide) (rc_o (by decide) (rc_o (by decide) (rc_o (by decide) (rc_F F29 (Or.inl (by decide)) (by decide) (hyR))))))) cv119 (rc_o (by decide) (rc_o (by decide) (rc_o (by decide) (rc_o (by decide) (rc_o (by decide) (rc_F F29 (Or.inl (by decide)) (by decide) (hyP))))))) cv120 (rc_o (by decide) (rc_o (by decide) (rc_o (by decide) (rc_o (by decide) (rc_o (by decide) (rc_F F29 (Or.inl (by decide)) (by decide) (hyL))))))) cv121 (rc_o (by decide) (rc_o (by decide) (rc_o (by decide) (rc_o (by decide) (rc_o (by decide) (rc_F F29 (Or.inl (by decide)) (by decide) (hyn))))))) cv122 (rc_o (by decide) (rc_o (by decide) (rc_o (by decide) (rc_o (by decide) (rc_o (by decide) (rc_F F29 (Or.inl (by decide)) (by decide) (hyh))))))) cv123 (rc_o (by decide) (rc_o (by decide) (rc_o (by decide) (rc_o (by decide) (rc_o (by decide) (rc_F F29 (Or.inl (by decide)) (by decide) (hfl))))))) (rc_o (by decide) (rc_o (by decide) (rc_o (by decide) (rc_o (by decide) (rc_o (by decide) (rc_F F29 (Or.inl (by decide)) (by decide) (hxa))))))) (rc_o (by decide) (rc_o (by decide) (rc_o (by decide) (rc_o (by decide) (rc_o (by decide) (rc_F F29 (Or.inl (by decide)) (by decide) (hxo))))))) (rc_o (by decide) (rc_o (by decide) (rc_o (by decide) (rc_o (by decide) (rc_o (by decide) (rc_F F29 (Or.inl (by decide)) (by decide) (hxq))))))) hN hN2 hds hxao hgh9 (fun i3124 σ125 w128 F129 r130 f131 f132 f133 => ?_) _ (0) (sA 31 a (v111) (sA 30 a (((v63 + 1) + v72) + 1) (sA 29 a (σ.2.1 10 h) (sA 28 a (v63 + 1) (sA 27 a (v55) σ22))))) (((((w28.put (by decide) (by decide) (fo_27 (by omega))).put (by decide) (by decide) (fo_28 (by omega))).put (by decide) (by decide) (fo_29 (by omega))).put (by decide) (by decide) (fo_30 (by omega))).put (by decide) (by decide) (fo_31 (by omega))) FrC.rfl (by omega) CHX.rfl (fun j a b => by omega) rfl)
        show Tn _ _ 171 T σ125 [(0, .ref a), (1, .int (iI k)), (2, .int (iI (v86 - 1))), (3, .int (iI i3124))] [] _
        refine tn_aload_n dX4_meltAt_171 rfl 0 rfl ?_
        refine tn_iload_n dX4_meltAt_172 rfl 1 rfl ?_
        have cv134 : cW σ125 x n = W := (cW_row (CHX.r f131 (by simp only [List.mem_cons, List.not_mem_nil, or_false, not_or]; exact (hds.ne (i := 0) (j := 12) rfl rfl (by decide))))).trans (cv112)
        obtain ⟨hk137, hl138⟩ : AR T xR 1 12 12 := ar_of (wf_11 hw hk32o) hxR
        have hk137i : IA T xR := by unfold IA; omega
        have cv139 : σ125.2.1 (1000 + xR) = Hr := (CHX.r f131 (by simp only [List.mem_cons, List.not_mem_nil, or_false, not_or]; exact (hds.ne (i := 1) (j := 12) rfl rfl (by decide)))).trans (cv113)
        obtain ⟨hk142, hl143⟩ : AR T xP 1 12 12 := ar_of (wf_12 hw hk32o) hxP
        have hk142i : IA T xP := by unfold IA; omega
        have cv144 : σ125.2.1 (1000 + xP) = Hp := (CHX.r f131 (by simp only [List.mem_cons, List.not_mem_nil, or_false, not_or]; exact (hds.ne (i := 2) (j := 12) rfl rfl (by decide)))).trans (cv114)
        obtain ⟨hk147, hl148⟩ : AR T xL 1 12 12 := ar_of (wf_13 hw hk32o) hxL
        have hk147i : IA T xL := by unfold IA; omega
        have cv149 : σ125.2.1 (1000 + xL) = Hl := (CHX.r f131 (by simp only [List.mem_cons, List.not_mem_nil, or_false, not_or]; exact (hds.ne (i := 3) (j := 12) rfl rfl (by decide)))).trans (cv115)
        have cv150 : σ125.2.1 (1000 + xn) = Hn := (CHX.r f131 (by simp only [List.mem_cons, List.not_mem_nil, or_false, not_or]; exact (hds.ne (i := 4) (j := 12) rfl rfl (by decide)))).trans (cv116)
        have cv151 : σ125.2.1 (1000 + xh) = Hh := (CHX.r f131 (by simp only [List.mem_cons, List.not_mem_nil, or_false, not_or]; exact (hds.ne (i := 5) (j := 12) rfl rfl (by decide)))).trans (cv117)
        obtain ⟨hk154, hl155⟩ : AR T yR 1 12 12 := ar_of (wf_11 hw hk7o) hyR
        have hk154i : IA T yR := by unfold IA; omega
        have cv156 : σ125.2.1 (1000 + yR) = Gr := (CHX.r f131 (by simp only [List.mem_cons, List.not_mem_nil, or_false, not_or]; exact (hds.ne (i := 7) (j := 12) rfl rfl (by decide)))).trans (cv119)
        obtain ⟨hk159, hl160⟩ : AR T yP 1 12 12 := ar_of (wf_12 hw hk7o) hyP
        have hk159i : IA T yP := by unfold IA; omega
        have cv161 : σ125.2.1 (1000 + yP) = Gp := (CHX.r f131 (by simp only [List.mem_cons, List.not_mem_nil, or_false, not_or]; exact (hds.ne (i := 8) (j := 12) rfl rfl (by decide)))).trans (cv120)
        obtain ⟨hk164, hl165⟩ : AR T yL 1 12 12 := ar_of (wf_13 hw hk7o) hyL
        have hk164i : IA T yL := by unfold IA; omega
        have cv166 : σ125.2.1 (1000 + yL) = Gl := (CHX.r f131 (by simp only [List.mem_cons, List.not_mem_nil, or_false, not_or]; exact (hds.ne (i := 9) (j := 12) rfl rfl (by decide)))).trans (cv121)
        have cv167 : σ125.2.1 (1000 + yn) = Gn := (CHX.r f131 (by simp only [List.mem_cons, List.not_mem_nil, or_false, not_or]; exact (hds.ne (i := 10) (j := 12) rfl rfl (by decide)))).trans (cv122)
        have cv168 : σ125.2.1 (1000 + yh) = Gh := (CHX.r f131 (by simp only [List.mem_cons, List.not_mem_nil, or_false, not_or]; exact (hds.ne (i := 11) (j := 12) rfl rfl (by decide)))).trans (cv123)
        refine tn_callV (M := m_X4_meltAt) (pc := 173) (ix := 85) (ci := 4) (M' := m_X4_addFrames) (As := [.int (iI k)]) (rest := []) dX4_meltAt_173 ok_X4_addFrames im_X4_addFrames se_X4_addFrames ml4_85 np_X4_addFrames rfl rfl ha rfl (Nat.le_of_ble_eq_true rfl) (Nat.le_of_ble_eq_true rfl) rfl (k_X4_addFrames_x (d + 1) (T := T) (σ := σ125) (a := a) (k := k) (h := h) (x := x) (n := n) (W := W) (xR := xR) (Hr := Hr) (xP := xP) (Hp := Hp) (xL := xL) (Hl := Hl) (xn := xn) (Hn := Hn) (xh := xh) (Hh := Hh) (g := g) (Fg := Fg) (yR := yR) (Gr := Gr) (yP := yP) (Gp := Gp) (yL := yL) (Gl := Gl) (yn := yn) (Gn := Gn) (yh := yh) (Gh := Gh) (base := v55) (fb := σ.2.1 10 h) (j0 := j0) ha (by omega) w128 (rc_F F129 (Or.inl (by decide)) (by decide) (rc_o (by decide) (rc_o (by decide) (rc_o (by decide) (rc_o (by decide) (rc_o (by decide) (rc_F F29 (Or.inl (by decide)) (by decide) (hh)))))))) (rc_F F129 (Or.inl (by decide)) (by decide) (rc_o (by decide) (rc_o (by decide) (rc_o (by decide) (rc_o (by decide) (rc_o (by decide) (rc_F F29 (Or.inl (by decide)) (by decide) (hx)))))))) (rc_F F129 (Or.inl (by decide)) (by decide) (rc_o (by decide) (rc_o (by decide) (rc_o (by decide) (rc_o (by decide) (rc_o (by decide) (rc_F F29 (Or.inl (by decide)) (by decide) (hn)))))))) cv134 (rc_F F129 (Or.inl (by decide)) (by decide) (rc_o (by decide) (rc_o (by decide) (rc_o (by decide) (rc_o (by decide) (rc_o (by decide) (rc_F F29 (Or.inl (by decide)) (by decide) (hxR)))))))) cv139 (rc_F F129 (Or.inl (by decide)) (by decide) (rc_o (by decide) (rc_o (by decide) (rc_o (by decide) (rc_o (by decide) (rc_o (by decide) (rc_F F29 (Or.inl (by decide)) (by decide) (hxP)))))))) cv144 (rc_F F129 (Or.inl (by decide)) (by decide) (rc_o (by decide) (rc_o (by decide) (rc_o (by decide) (rc_o (by decide) (rc_o (by decide) (rc_F F29 (Or.inl (by decide)) (by decide) (hxL)))))))) cv149 (rc_F F129 (Or.inl (by decide)) (by decide) (rc_o (by decide) (rc_o (by decide) (rc_o (by decide) (rc_o (by decide) (rc_o (by decide) (rc_F F29 (Or.inl (by decide)) (by decide) (hxn)))))))) cv150 (rc_F F129 (Or.inl (by decide)) (by decide) (rc_o (by decide) (rc_o (by decide) (rc_o (by decide) (rc_o (by decide) (rc_o (by decide) (rc_F F29 (Or.inl (by decide)) (by decide) (hxh)))))))) cv151 (rc_F F129 (Or.inl (by decide)) (by decide) (rc_o (by decide) (rc_o (by decide) (rc_o (by decide) (rc_o (by decide) (rc_o (by decide) (rc_F F29 (Or.inl (by decide)) (by decide) (hg)))))))) (rc_F F129 (Or.inl (by decide)) (by decide) (rc_o (by decide) (rc_o (by decide) (rc_o (by decide) (rc_o (by decide) (rc_o (by decide) (rc_F F29 (Or.inl (by decide)) (by decide) (hFg)))))))) (rc_F F129 (Or.inl (by decide)) (by decide) (rc_o (by decide) (rc_o (by decide) (rc_o (by decide) (rc_o (by decide) (rc_o (by decide) (rc_F F29 (Or.inl (by decide)) (by decide) (hyR)))))))) cv156 (rc_F F129 (Or.inl (by decide)) (by decide) (rc_o (by decide) (rc_o (by decide) (rc_o (by decide) (rc_o (by decide) (rc_o (by decide) (rc_F F29 (Or.inl (by decide)) (by decide) (hyP)))))))) cv161 (rc_F F129 (Or.inl (by decide)) (by decide) (rc_o (by decide) (rc_o (by decide) (rc_o (by decide) (rc_o (by decide) (rc_o (by decide) (rc_F F29 (Or.inl (by decide)) (by decide) (hyL)))))))) cv166 (rc_F F129 (Or.inl (by decide)) (by decide) (rc_o (by decide) (rc_o (by decide) (rc_o (by decide) (rc_o (by decide) (rc_o (by decide) (rc_F F29 (Or.inl (by decide)) (by decide) (hyn)))))))) cv167 (rc_F F129 (Or.inl (by decide)) (by decide) (rc_o (by decide) (rc_o (by decide) (rc_o (by decide) (rc_o (by decide) (rc_o (by decide) (rc_F F29 (Or.inl (by decide)) (by decide) (hyh)))))))) cv168 (rc_F F129 (Or.inl (by decide)) (by decide) (rc_o (by decide) (rc_o (by decide) (rc_o (by decide) (rc_o (by decide) (ra_eq)))))) (rc_F F129 (Or.inl (by decide)) (by decide) (rc_o (by decide) (rc_o (by decide) (ra_eq)))) (by omega) (hds.sub [0, 1, 2, 3, 4, 5, 7, 8, 9, 10, 11] (by decide) rfl) (by omega) hgn hnag (by omega) hgp (by omega) hk10 hlA) (fun r169 T171 σ170 gt172 hp => ?_)
        obtain ⟨rfl, rfl, w181, F182, f173, f174, f175, f176, f177, f178, f179⟩ := hp
        clear gt172
        show Tn _ _ 176 T σ170 [(0, .ref a), (1, .int (iI k)), (2, .int (iI (v86 - 1))), (3, .int (iI i3124))] [] _
        first | rw [hFh] at f174 | skip
        first | rw [hFh] at f175 | skip
        first | rw [hFh] at f176 | skip
        first | rw [hFh] at f177 | skip
        first | rw [hFh] at f178 | skip
        first | rw [hFh] at f179 | skip
        refine tn_aload_n dX4_meltAt_176 rfl 0 rfl ?_
        refine tn_getR (ci := 4) (i := 2) (n := 25) (x := h) dX4_meltAt_177 rfl lay_4 (by decide) fl4_19 ha rfl rfl (rc_F F182 (Or.inl (by decide)) (by decide) (rc_F F129 (Or.inl (by decide)) (by decide) (rc_o (by decide) (rc_o (by decide) (rc_o (by decide) (rc_o (by decide) (rc_o (by decide) (rc_F F29 (Or.inl (by decide)) (by decide) (hh))))))))) ?_
        refine tn_iload_n dX4_meltAt_180 rfl 1 rfl ?_
        have cv183 : cW σ170 x n = W := (cW_row (CHX.r f173 (by simp only [List.mem_cons, List.not_mem_nil, or_false, not_or]; exact ⟨(hds.ne (i := 0) (j := 1) rfl rfl (by decide)), (hds.ne (i := 0) (j := 2) rfl rfl (by decide)), (hds.ne (i := 0) (j := 3) rfl rfl (by decide)), (hds.ne (i := 0) (j := 4) rfl rfl (by decide)), (hds.ne (i := 0) (j := 5) rfl rfl (by decide))⟩))).trans (cv134)
        refine tn_callV (M := m_X4_meltAt) (pc := 181) (ix := 89) (ci := 1) (M' := m_X1_removeRow) (As := [.int (iI k)]) (rest := []) dX4_meltAt_181 ok_X1_removeRow im_X1_removeRow se_X1_removeRow ml4_89 np_X1_removeRow rfl rfl hk32o rfl (Nat.le_of_ble_eq_true rfl) (Nat.le_of_ble_eq_true rfl) rfl (k_X1_removeRow_x (d + 3) (T := T) (σ := σ170) (a := h) (k := k) (x := x) (n := n) (W := W) hk32o hk32 (by omega) w181 (rc_F F182 (Or.inl (by decide)) (by decide) (rc_F F129 (Or.inl (by decide)) (by decide) (rc_o (by decide) (rc_o (by decide) (rc_o (by decide) (rc_o (by decide) (rc_o (by decide) (rc_F F29 (Or.inl (by decide)) (by decide) (hx))))))))) (rc_F F182 (Or.inl (by decide)) (by decide) (rc_F F129 (Or.inl (by decide)) (by decide) (rc_o (by decide) (rc_o (by decide) (rc_o (by decide) (rc_o (by decide) (rc_o (by decide) (rc_F F29 (Or.inl (by decide)) (by decide) (hn))))))))) cv183 (by omega) (by omega)) (fun r184 T186 σ185 gt187 hp => ?_)
        obtain ⟨rfl, rfl, w192, F193, f188, f189, f190⟩ := hp
        clear gt187
        show Tn _ _ 184 T σ185 [(0, .ref a), (1, .int (iI k)), (2, .int (iI (v86 - 1))), (3, .int (iI i3124))] [] _
        have rm69 := f189
        refine tn_aload_n dX4_meltAt_184 rfl 0 rfl ?_
        refine tn_getR (ci := 4) (i := 2) (n := 25) (x := h) dX4_meltAt_185 rfl lay_4 (by decide) fl4_19 ha rfl rfl (rc_F F193 (Or.inl (by decide)) (by decide) (rc_F F182 (Or.inl (by decide)) (by decide) (rc_F F129 (Or.inl (by decide)) (by decide) (rc_o (by decide) (rc_o (by decide) (rc_o (by decide) (rc_o (by decide) (rc_o (by decide) (rc_F F29 (Or.inl (by decide)) (by decide) (hh)))))))))) ?_
        refine tn_iload_n dX4_meltAt_188 rfl 1 rfl ?_
        refine tn_iload_n dX4_meltAt_189 rfl 2 rfl ?_
        refine tn_iconst dX4_meltAt_190 ?_
        refine tn_iadd dX4_meltAt_191 ?_
        refine tn_callV (M := m_X4_meltAt) (pc := 192) (ix := 92) (ci := 1) (M' := m_X1_openRows) (As := [.int (iI k), .int (iI ((v86 - 1) + 1))]) (rest := []) dX4_meltAt_192 ok_X1_openRows im_X1_openRows se_X1_openRows ml4_92 np_X1_openRows rfl rfl hk32o rfl (Nat.le_of_ble_eq_true rfl) (Nat.le_of_ble_eq_true rfl) rfl (k_X1_openRows_x (d + 1) (T := T) (σ := σ185) (a := h) (k := k) (m := (v86 - 1) + 1) (x := x) (n := σ185.2.1 6 h) (W := cW σ185 x (σ185.2.1 6 h)) hk32o hk32 (by omega) (by omega) w192 (rc_F F193 (Or.inl (by decide)) (by decide) (rc_F F182 (Or.inl (by decide)) (by decide) (rc_F F129 (Or.inl (by decide)) (by decide) (rc_o (by decide) (rc_o (by decide) (rc_o (by decide) (rc_o (by decide) (rc_o (by decide) (rc_F F29 (Or.inl (by decide)) (by decide) (hx)))))))))) (rfl) rfl (by omega) (by omega)) (fun r194 T196 σ195 gt197 hp => ?_)
        obtain ⟨v202, rfl, w203, F204, f198, f199, f200, f201⟩ := hp
        replace ha : OB T196 a 4 := gt197.ob ha
        show Tn _ _ 195 T196 σ195 [(0, .ref a), (1, .int (iI k)), (2, .int (iI (v86 - 1))), (3, .int (iI i3124))] [.int (iI v202)] _
        obtain ⟨x29, e59, ex9, e69, ew9⟩ := f201
        have ew8 : cW σ195 x29 (σ195.2.1 6 h) = opV (toV W k) k ((v86 - 1) + 1) := by rw [e69, ew9, f189, f190]
        have s069 : σ195.2.1 6 h = n - 1 + ((v86 - 1) + 1) := by omega
        refine tn_pop dX4_meltAt_195 rfl ?_
        refine tn_aload_n dX4_meltAt_196 rfl 0 rfl ?_
        refine tn_iload_n dX4_meltAt_197 rfl 1 rfl ?_
        refine tn_putV (ci := 4) (i := 9) (n := 32) (r := false) (v := k) tyX4 tyX4_ok nmX4 dX4_meltAt_198 rfl lay_4 (by decide) fl4_96 rfl (tyX4_ok 9 (by decide)) rfl rfl rfl ha rfl rfl ?_
        refine tn_aload_n dX4_meltAt_201 rfl 0 rfl ?_
        have cv205 : (sA 32 a (k) σ195).2.1 (1000 + xq) = σ125.2.1 (1000 + xq) := (rv_fld (by decide)).trans ((CHN.r f199 (by omega) (by simp only [List.mem_cons, List.not_mem_nil, or_false, not_or]; exact (hds.ne (i := 12) (j := 0) rfl rfl (by decide)))).trans ((CHX.r f188 (by simp only [List.mem_cons, List.not_mem_nil, or_false, not_or]; exact (hds.ne (i := 12) (j := 0) rfl rfl (by decide)))).trans ((CHX.r f173 (by simp only [List.mem_cons, List.not_mem_nil, or_false, not_or]; exact ⟨(hds.ne (i := 12) (j := 1) rfl rfl (by decide)), (hds.ne (i := 12) (j := 2) rfl rfl (by decide)), (hds.ne (i := 12) (j := 3) rfl rfl (by decide)), (hds.ne (i := 12) (j := 4) rfl rfl (by decide)), (hds.ne (i := 12) (j := 5) rfl rfl (by decide))⟩)).trans (rfl))))
        have cv206 : cW (sA 32 a (k) σ195) x29 (σ195.2.1 6 h) = (opV (toV W k) k ((v86 - 1) + 1)) := (cW_fld (by decide)).trans (ew8)
        have cv207 : (sA 32 a (k) σ195).2.2 xa = σ22.2.2 xa := (lv_fld (by decide)).trans ((CHN.l f199 (by simp)).trans ((CHX.l f188 (by simp)).trans ((CHX.l f173 (by simp)).trans ((CHX.l f131 (by simp)).trans ((lv_fld (by decide)).trans (cv74))))))
        have cv208 : (sA 32 a (k) σ195).2.1 (1000 + yh) = Gh := (rv_fld (by decide)).trans ((CHN.r f199 (by omega) (by simp only [List.mem_cons, List.not_mem_nil, or_false, not_or]; exact (hds.ne (i := 11) (j := 0) rfl rfl (by decide)))).trans ((CHX.r f188 (by simp only [List.mem_cons, List.not_mem_nil, or_false, not_or]; exact (hds.ne (i := 11) (j := 0) rfl rfl (by decide)))).trans ((CHX.r f173 (by simp only [List.mem_cons, List.not_mem_nil, or_false, not_or]; exact ⟨(hds.ne (i := 11) (j := 1) rfl rfl (by decide)), (hds.ne (i := 11) (j := 2) rfl rfl (by decide)), (hds.ne (i := 11) (j := 3) rfl rfl (by decide)), (hds.ne (i := 11) (j := 4) rfl rfl (by decide)), (hds.ne (i := 11) (j := 5) rfl rfl (by decide))⟩)).trans (cv168))))
        refine tn_callV (M := m_X4_meltAt) (pc := 202) (ix := 99) (ci := 4) (M' := m_X4_addEntry) (As := []) (rest := []) dX4_meltAt_202 ok_X4_addEntry im_X4_addEntry se_X4_addEntry ml4_99 np_X4_addEntry rfl rfl ha rfl (Nat.le_of_ble_eq_true rfl) (Nat.le_of_ble_eq_true rfl) rfl (k_X4_addEntry_x (d) (T := T196) (σ := (sA 32 a (k) σ195)) (a := a) (h := h) (x := x29) (n := σ195.2.1 6 h) (W := (opV (toV W k) k ((v86 - 1) + 1))) (g := g) (Ng := Ng) (fl := fl) (xa := xa) (La := σ22.2.2 xa) (P := P) (yh := yh) (Rg := Gh) (rz := k) (base := v55) (fb := σ.2.1 10 h) (xq := xq) (Ra := σ125.2.1 (1000 + xq)) (Fg := Fg) (W0 := (opV (toV W k) k ((v86 - 1) + 1))) (k0 := k) (a0 := ((v86 - 1) + 1)) (s0 := ((0, fun _ => zI) : BB)) (it := (vW W k)) ha (w203.put (by decide) (by decide) (fo_32 (by omega))) (rc_o (by decide) (rc_F F204 (Or.inl (by decide)) (by decide) (rc_F F193 (Or.inl (by decide)) (by decide) (rc_F F182 (Or.inl (by decide)) (by decide) (rc_F F129 (Or.inl (by decide)) (by decide) (rc_o (by decide) (rc_o (by decide) (rc_o (by decide) (rc_o (by decide) (rc_o (by decide) (rc_F F29 (Or.inl (by decide)) (by decide) (hh)))))))))))) (rc_o (by decide) (e59)) (rc_o (by decide) (rfl)) cv206 (rc_o (by decide) (rc_F F204 (Or.inl (by decide)) (by decide) (rc_F F193 (Or.inl (by decide)) (by decide) (rc_F F182 (Or.inl (by decide)) (by decide) (rc_F F129 (Or.inl (by decide)) (by decide) (rc_o (by decide) (rc_o (by decide) (rc_o (by decide) (rc_o (by decide) (rc_o (by decide) (rc_F F29 (Or.inl (by decide)) (by decide) (hg)))))))))))) (rc_o (by decide) (rc_F F204 (Or.inl (by decide)) (by decide) (rc_F F193 (Or.inl (by decide)) (by decide) (rc_F F182 (Or.inl (by decide)) (by decide) (rc_F F129 (Or.inl (by decide)) (by decide) (rc_o (by decide) (rc_o (by decide) (rc_o (by decide) (rc_o (by decide) (rc_o (by decide) (rc_F F29 (Or.inl (by decide)) (by decide) (hNg)))))))))))) (rc_o (by decide) (rc_F F204 (Or.inl (by decide)) (by decide) (rc_F F193 (Or.inl (by decide)) (by decide) (rc_F F182 (Or.inl (by decide)) (by decide) (rc_F F129 (Or.inl (by decide)) (by decide) (rc_o (by decide) (rc_o (by decide) (rc_o (by decide) (rc_o (by decide) (rc_o (by decide) (rc_F F29 (Or.inl (by decide)) (by decide) (hfl)))))))))))) (rc_o (by decide) (rc_F F204 (Or.inl (by decide)) (by decide) (rc_F F193 (Or.inl (by decide)) (by decide) (rc_F F182 (Or.inl (by decide)) (by decide) (rc_F F129 (Or.inl (by decide)) (by decide) (rc_o (by decide) (rc_o (by decide) (rc_o (by decide) (rc_o (by decide) (rc_o (by decide) (rc_F F29 (Or.inl (by decide)) (by decide) (hxa)))))))))))) cv207 (rc_o (by decide) (rc_F F204 (Or.inl (by decide)) (by decide) (rc_F F193 (Or.inl (by decide)) (by decide) (rc_F F182 (Or.inl (by decide)) (by decide) (rc_F F129 (Or.inl (by decide)) (by decide) (rc_o (by decide) (rc_o (by decide) (rc_o (by decide) (rc_o (by decide) (rc_o (by decide) (rc_F F29 (Or.inl (by decide)) (by decide) (hP)))))))))))) (rc_o (by decide) (rc_F F204 (Or.inl (by decide)) (by decide) (rc_F F193 (Or.inl (by decide)) (by decide) (rc_F F182 (Or.inl (by decide)) (by decide) (rc_F F129 (Or.inl (by decide)) (by decide) (rc_o (by decide) (rc_o (by decide) (rc_o (by decide) (rc_o (by decide) (rc_o (by decide) (rc_F F29 (Or.inl (by decide)) (by decide) (hyh)))))))))))) cv208 (ra_eq) (rc_o (by decide) (rc_F F204 (Or.inl (by decide)) (by decide) (rc_F F193 (Or.inl (by decide)) (by decide) (rc_F F182 (Or.inl (by decide)) (by decide) (rc_F F129 (Or.inl (by decide)) (by decide) (rc_o (by decide) (rc_o (by decide) (rc_o (by decide) (rc_o (by decide) (ra_eq)))))))))) (rc_o (by decide) (rc_F F204 (Or.inl (by decide)) (by decide) (rc_F F193 (Or.inl (by decide)) (by decide) (rc_F F182 (Or.inl (by decide)) (by decide) (rc_F F129 (Or.inl (by decide)) (by decide) (rc_o (by decide) (rc_o (by decide) (ra_eq)))))))) (rc_o (by decide) (rc_F F204 (Or.inl (by decide)) (by decide) (rc_F F193 (Or.inl (by decide)) (by decide) (rc_F F182 (Or.inl (by decide)) (by decide) (rc_F F129 (Or.inl (by decide)) (by decide) (rc_o (by decide) (rc_o (by decide) (rc_o (by decide) (rc_o (by decide) (rc_o (by decide) (rc_F F29 (Or.inl (by decide)) (by decide) (hxq)))))))))))) cv205 (by omega) (fun j a b => by rw [vW_10 hk10 (by omega)]; exact f133 j a b) (fun m a b => hit_of io9 hk10 a b) (fun m a b => by have z := hnag 0 m (by decide) (by omega) a (by omega); have z2 := gb9.1 (Gh m) ⟨0, by decide, by omega, m, a, by omega, by rw [show 12 * 0 + m = m by omega]⟩; rw [show 12 * 0 + m = m by omega] at z; omega) (fun g q => by have z := nn_b f26 (by omega) gb9 q; omega) (by omega) (by omega) ⟨(fun e => ex9.elim (fun q => hds.ne (i := 0) (j := 11) rfl rfl (by decide) (q.symm.trans e)) (fun q => by rw [e] at q; omega)), (fun e => ex9.elim (fun q => hds.ne (i := 0) (j := 12) rfl rfl (by decide) (q.symm.trans e)) (fun q => by rw [e] at q; omega))⟩ (by omega) (by show (0 : Int) + 1 + Ng + P + cN (nnC (σ22.2.2 xa) Gh P) 0 192 ≤ _; rw [cn9]; omega) (BLD.start (by omega) (fun j a b => op_z a b))) (fun r209 T211 σ210 gt212 hp => ?_)
        obtain ⟨rfl, rfl, w216, F217, f213, f214⟩ := hp
        clear gt212
        show Tn _ _ 205 T196 σ210 [(0, .ref a), (1, .int (iI k)), (2, .int (iI (v86 - 1))), (3, .int (iI i3124))] [] _
        refine tn_aload_n dX4_meltAt_205 rfl 0 rfl ?_
        have cv218 : cW σ210 y ng = Wg := (cW_row (CHX.r f213 (by simp only [List.mem_cons, List.not_mem_nil, or_false, not_or]; exact (Ne.symm (fun e => ex9.elim (fun q => hds.ne (i := 0) (j := 6) rfl rfl (by decide) (q.symm.trans e)) (fun q => by rw [e] at q; omega)))))).trans ((cW_fld (by decide)).trans ((cW_row (CHN.r f199 (by omega) (by simp only [List.mem_cons, List.not_mem_nil, or_false, not_or]; exact (hds.ne (i := 6) (j := 0) rfl rfl (by decide))))).trans ((cW_row (CHX.r f188 (by simp only [List.mem_cons, List.not_mem_nil, or_false, not_or]; exact (hds.ne (i := 6) (j := 0) rfl rfl (by decide))))).trans ((cW_row (CHX.r f173 (by simp only [List.mem_cons, List.not_mem_nil, or_false, not_or]; exact ⟨(hds.ne (i := 6) (j := 1) rfl rfl (by decide)), (hds.ne (i := 6) (j := 2) rfl rfl (by decide)), (hds.ne (i := 6) (j := 3) rfl rfl (by decide)), (hds.ne (i := 6) (j := 4) rfl rfl (by decide)), (hds.ne (i := 6) (j := 5) rfl rfl (by decide))⟩))).trans ((cW_row (CHX.r f131 (by simp only [List.mem_cons, List.not_mem_nil, or_false, not_or]; exact (hds.ne (i := 6) (j := 12) rfl rfl (by decide))))).trans (cv118))))))
        refine tn_callV (M := m_X4_meltAt) (pc := 206) (ix := 102) (ci := 4) (M' := m_X4_addBody) (As := []) (rest := []) dX4_meltAt_206 ok_X4_addBody im_X4_addBody se_X4_addBody ml4_102 np_X4_addBody rfl rfl ha rfl (Nat.le_of_ble_eq_true rfl) (Nat.le_of_ble_eq_true rfl) rfl (k_X4_addBody_x (d) (T := T196) (σ := σ210) (a := a) (h := h) (x := x29) (n := σ195.2.1 6 h) (W := cW σ210 x29 (σ195.2.1 6 h)) (g := g) (y := y) (ng := ng) (Wg := Wg) (rz := σ210.2.1 32 a) (base := v55) (lb := v63 + 1) (fb := σ.2.1 10 h) (ll := ((v63 + 1) + v72) + 1) (rs := v111) (Fg := Fg) (W0 := (opV (toV W k) k ((v86 - 1) + 1))) (k0 := k) (a0 := ((v86 - 1) + 1)) (s0 := (mb2 v55 (nnC (σ22.2.2 xa) (Gh) (P)) (mb1 (σ.2.1 10 h) (v55) (P) (Gh) (vW W k) (bA ((0, fun _ => zI) : BB) (mkI 14 (σ.2.1 10 h) 0 0 0 0)) (Ng).toNat) (192 : Int).toNat)) ha w216 (rc_F F217 (Or.inl (by decide)) (by decide) (rc_o (by decide) (rc_F F204 (Or.inl (by decide)) (by decide) (rc_F F193 (Or.inl (by decide)) (by decide) (rc_F F182 (Or.inl (by decide)) (by decide) (rc_F F129 (Or.inl (by decide)) (by decide) (rc_o (by decide) (rc_o (by decide) (rc_o (by decide) (rc_o (by decide) (rc_o (by decide) (rc_F F29 (Or.inl (by decide)) (by decide) (hh))))))))))))) (rc_F F217 (Or.inl (by decide)) (by decide) (rc_o (by decide) (e59))) (rc_F F217 (Or.inl (by decide)) (by decide) (rc_o (by decide) (rfl))) rfl (rc_F F217 (Or.inl (by decide)) (by decide) (rc_o (by decide) (rc_F F204 (Or.inl (by decide)) (by decide) (rc_F F193 (Or.inl (by decide)) (by decide) (rc_F F182 (Or.inl (by decide)) (by decide) (rc_F F129 (Or.inl (by decide)) (by decide) (rc_o (by decide) (rc_o (by decide) (rc_o (by decide) (rc_o (by decide) (rc_o (by decide) (rc_F F29 (Or.inl (by decide)) (by decide) (hg))))))))))))) (rc_F F217 (Or.inl (by decide)) (by decide) (rc_o (by decide) (Eq.trans (CHN.f (a := g) f199 (by decide) (by first | (simp; done) | (simp; omega))) (rc_F F193 (Or.inl (by decide)) (by decide) (rc_F F182 (Or.inl (by decide)) (by decide) (rc_F F129 (Or.inl (by decide)) (by decide) (rc_o (by decide) (rc_o (by decide) (rc_o (by decide) (rc_o (by decide) (rc_o (by decide) (rc_F F29 (Or.inl (by decide)) (by decide) (hy))))))))))))) (rc_F F217 (Or.inl (by decide)) (by decide) (rc_o (by decide) (Eq.trans (CHN.f (a := g) f199 (by decide) (by first | (simp; done) | (simp; omega))) (Eq.trans (CHX.f (a := g) f188 (by decide) (by first | (simp; done) | (simp; omega))) (rc_F F182 (Or.inl (by decide)) (by decide) (rc_F F129 (Or.inl (by decide)) (by decide) (rc_o (by decide) (rc_o (by decide) (rc_o (by decide) (rc_o (by decide) (rc_o (by decide) (rc_F F29 (Or.inl (by decide)) (by decide) (hng))))))))))))) cv218 (rfl) (rc_F F217 (Or.inl (by decide)) (by decide) (rc_o (by decide) (rc_F F204 (Or.inl (by decide)) (by decide) (rc_F F193 (Or.inl (by decide)) (by decide) (rc_F F182 (Or.inl (by decide)) (by decide) (rc_F F129 (Or.inl (by decide)) (by decide) (rc_o (by decide) (rc_o (by decide) (rc_o (by decide) (rc_o (by decide) (ra_eq))))))))))) (rc_F F217 (Or.inl (by decide)) (by decide) (rc_o (by decide) (rc_F F204 (Or.inl (by decide)) (by decide) (rc_F F193 (Or.inl (by decide)) (by decide) (rc_F F182 (Or.inl (by decide)) (by decide) (rc_F F129 (Or.inl (by decide)) (by decide) (rc_o (by decide) (rc_o (by decide) (rc_o (by decide) (ra_eq)))))))))) (rc_F F217 (Or.inl (by decide)) (by decide) (rc_o (by decide) (rc_F F204 (Or.inl (by decide)) (by decide) (rc_F F193 (Or.inl (by decide)) (by decide) (rc_F F182 (Or.inl (by decide)) (by decide) (rc_F F129 (Or.inl (by decide)) (by decide) (rc_o (by decide) (rc_o (by decide) (ra_eq))))))))) (rc_F F217 (Or.inl (by decide)) (by decide) (rc_o (by decide) (rc_F F204 (Or.inl (by decide)) (by decide) (rc_F F193 (Or.inl (by decide)) (by decide) (rc_F F182 (Or.inl (by decide)) (by decide) (rc_F F129 (Or.inl (by decide)) (by decide) (rc_o (by decide) (ra_eq)))))))) (rc_F F217 (Or.inl (by decide)) (by decide) (rc_o (by decide) (rc_F F204 (Or.inl (by decide)) (by decide) (rc_F F193 (Or.inl (by decide)) (by decide) (rc_F F182 (Or.inl (by decide)) (by decide) (rc_F F129 (Or.inl (by decide)) (by decide) (ra_eq))))))) (by omega) hqk hz7 hnc (fun j g a b q => by have z := rg_b hqk gb9 a b q; omega) ⟨⟨by omega, by omega⟩, ⟨by omega, by omega⟩, ⟨by omega, by omega, by omega⟩, ⟨by omega, by omega⟩, by have z := io9.2.1 (Or.inr hk10); omega⟩ (fun e => ex9.elim (fun q => hds.ne (i := 0) (j := 6) rfl rfl (by decide) (q.symm.trans e)) (fun q => by rw [e] at q; omega)) (by omega) (by omega) (by rw [mb2_n, mb1_n _ (by omega)]; show (0 : Int) + 1 + (Ng.toNat : Int) + (if (Ng.toNat : Int) ≤ P then (Ng.toNat : Int) else P) + cN (nnC (σ22.2.2 xa) Gh P) 0 192 + ng + cN (fun j => vW Wg j 0 = 7) 0 ng.toNat + 2 ≤ _; rw [cn9]; split <;> omega) f214) (fun r219 T221 σ220 gt222 hp => ?_)
        obtain ⟨rfl, rfl, w226, F227, f223, f224⟩ := hp
        clear gt222
        show Tn _ _ 209 T196 σ220 [(0, .ref a), (1, .int (iI k)), (2, .int (iI (v86 - 1))), (3, .int (iI i3124))] [] _
        have hb9 := f224
        have em9 := mc_eq (W := W) (k := k) (fb := σ.2.1 10 h) (Fh := Fh) (base := v55) (lb := v63 + 1) (lq := v72 + 1) (ll := ((v63 + 1) + v72) + 1) (rs := v111) (P := P) (Ng := Ng) (Gh := Gh) f26 (by omega) (by omega) (by omega) (by rw [vW_1]; exact f110)
        rw [em9] at hb9
        first | rw [hFh] at hb9 | skip
        have mn9 := mc_n (V := vW W) (Vg := vW Wg) (k := k) (Fh := Fh) (base := v55) (lb := v63 + 1) (lq := v72 + 1) (Gh := Gh) (P := P) (Ng := Ng) (ng := ng) (by omega) (by omega) (by omega)
        have nn9 : σ195.2.1 6 h = n + (mkC (vW W) (vW Wg) k Fh (v55) (v63 + 1) (v72 + 1) P Ng ng Gh).1 - 1 := by omega
        rw [nn9] at hb9
        have hfn9 := ml_fin (W := W) (n := n) (F := Fh) (Fg := Fg) rfl ⟨by omega, by omega⟩ hb9 (by omega) hqh (by omega)
        rw [show (v86 - 1) + 1 = (mkC (vW W) (vW Wg) k Fh (v55) (v63 + 1) (v72 + 1) P Ng ng Gh).1 by omega] at hfn9
        refine tn_iconst dX4_meltAt_209 ?_
        have cv228 : σ220.2.1 (1000 + xR) = σ170.2.1 (1000 + xR) := (CHX.r f223 (by simp only [List.mem_cons, List.not_mem_nil, or_false, not_or]; exact (Ne.symm (fun e => ex9.elim (fun q => hds.ne (i := 0) (j := 1) rfl rfl (by decide) (q.symm.trans e)) (fun q => by rw [e] at q; omega))))).trans ((CHX.r f213 (by simp only [List.mem_cons, List.not_mem_nil, or_false, not_or]; exact (Ne.symm (fun e => ex9.elim (fun q => hds.ne (i := 0) (j := 1) rfl rfl (by decide) (q.symm.trans e)) (fun q => by rw [e] at q; omega))))).trans ((rv_fld (by decide)).trans ((CHN.r f199 (by omega) (by simp only [List.mem_cons, List.not_mem_nil, or_false, not_or]; exact (hds.ne (i := 1) (j := 0) rfl rfl (by decide)))).trans ((CHX.r f188 (by simp only [List.mem_cons, List.not_mem_nil, or_false, not_or]; exact (hds.ne (i := 1) (j := 0) rfl rfl (by decide)))).trans (rfl)))))
        have cv229 : σ220.2.1 (1000 + xP) = σ170.2.1 (1000 + xP) := (CHX.r f223 (by simp only [List.mem_cons, List.not_mem_nil, or_false, not_or]; exact (Ne.symm (fun e => ex9.elim (fun q => hds.ne (i := 0) (j := 2) rfl rfl (by decide) (q.symm.trans e)) (fun q => by rw [e] at q; omega))))).trans ((CHX.r f213 (by simp only [List.mem_cons, List.not_mem_nil, or_false, not_or]; exact (Ne.symm (fun e => ex9.elim (fun q => hds.ne (i := 0) (j := 2) rfl rfl (by decide) (q.symm.trans e)) (fun q => by rw [e] at q; omega))))).trans ((rv_fld (by decide)).trans ((CHN.r f199 (by omega) (by simp only [List.mem_cons, List.not_mem_nil, or_false, not_or]; exact (hds.ne (i := 2) (j := 0) rfl rfl (by decide)))).trans ((CHX.r f188 (by simp only [List.mem_cons, List.not_mem_nil, or_false, not_or]; exact (hds.ne (i := 2) (j := 0) rfl rfl (by decide)))).trans (rfl)))))
        have cv230 : σ220.2.1 (1000 + xL) = σ170.2.1 (1000 + xL) := (CHX.r f223 (by simp only [List.mem_cons, List.not_mem_nil, or_false, not_or]; exact (Ne.symm (fun e => ex9.elim (fun q => hds.ne (i := 0) (j := 3) rfl rfl (by decide) (q.symm.trans e)) (fun q => by rw [e] at q; omega))))).trans ((CHX.r f213 (by simp only [List.mem_cons, List.not_mem_nil, or_false, not_or]; exact (Ne.symm (fun e => ex9.elim (fun q => hds.ne (i := 0) (j := 3) rfl rfl (by decide) (q.symm.trans e)) (fun q => by rw [e] at q; omega))))).trans ((rv_fld (by decide)).trans ((CHN.r f199 (by omega) (by simp only [List.mem_cons, List.not_mem_nil, or_false, not_or]; exact (hds.ne (i := 3) (j := 0) rfl rfl (by decide)))).trans ((CHX.r f188 (by simp only [List.mem_cons, List.not_mem_nil, or_false, not_or]; exact (hds.ne (i := 3) (j := 0) rfl rfl (by decide)))).trans (rfl)))))
        have cv231 : σ220.2.1 (1000 + xn) = σ170.2.1 (1000 + xn) := (CHX.r f223 (by simp only [List.mem_cons, List.not_mem_nil, or_false, not_or]; exact (Ne.symm (fun e => ex9.elim (fun q => hds.ne (i := 0) (j := 4) rfl rfl (by decide) (q.symm.trans e)) (fun q => by rw [e] at q; omega))))).trans ((CHX.r f213 (by simp only [List.mem_cons, List.not_mem_nil, or_false, not_or]; exact (Ne.symm (fun e => ex9.elim (fun q => hds.ne (i := 0) (j := 4) rfl rfl (by decide) (q.symm.trans e)) (fun q => by rw [e] at q; omega))))).trans ((rv_fld (by decide)).trans ((CHN.r f199 (by omega) (by simp only [List.mem_cons, List.not_mem_nil, or_false, not_or]; exact (hds.ne (i := 4) (j := 0) rfl rfl (by decide)))).trans ((CHX.r f188 (by simp only [List.mem_cons, List.not_mem_nil, or_false, not_or]; exact (hds.ne (i := 4) (j := 0) rfl rfl (by decide)))).trans (rfl)))))
        have cv232 : σ220.2.1 (1000 + xh) = σ170.2.1 (1000 + xh) := (CHX.r f223 (by simp only [List.mem_cons, List.not_mem_nil, or_false, not_or]; exact (Ne.symm (fun e => ex9.elim (fun q => hds.ne (i := 0) (j := 5) rfl rfl (by decide) (q.symm.trans e)) (fun q => by rw [e] at q; omega))))).trans ((CHX.r f213 (by simp only [List.mem_cons, List.not_mem_nil, or_false, not_or]; exact (Ne.symm (fun e => ex9.elim (fun q => hds.ne (i := 0) (j := 5) rfl rfl (by decide) (q.symm.trans e)) (fun q => by rw [e] at q; omega))))).trans ((rv_fld (by decide)).trans ((CHN.r f199 (by omega) (by simp only [List.mem_cons, List.not_mem_nil, or_false, not_or]; exact (hds.ne (i := 5) (j := 0) rfl rfl (by decide)))).trans ((CHX.r f188 (by simp only [List.mem_cons, List.not_mem_nil, or_false, not_or]; exact (hds.ne (i := 5) (j := 0) rfl rfl (by decide)))).trans (rfl)))))
        exact tn_zret (v := 1) rfl (by decide) dX4_meltAt_210 ⟨_, rfl, w226, (((((((((((((FrC.rfl.trans (FrC.sub F29 (by decide))).put (by decide) (by decide)).put (by decide) (by decide)).put (by decide) (by decide)).put (by decide) (by decide)).put (by decide) (by decide)).trans (FrC.sub F129 (by decide))).trans (FrC.sub F182 (by decide))).trans (FrC.sub F193 (by decide))).trans (FrC.sub F204 (by decide))).put (by decide) (by decide)).trans (FrC.sub (FrC.old F217 gt197) (by decide))).trans (FrC.sub (FrC.old F227 gt197) (by decide))), by omega, (((((((((((((CHN.rfl.trans (CHN.of f25 (by simp) (fun z q => Or.inl (by revert q; simp; try omega)) (by simp))).fld (by simp) (by decide)).fld (by simp) (by decide)).fld (by simp) (by decide)).fld (by simp) (by decide)).fld (by simp) (by decide)).trans (CHN.of f131 (by simp) (fun z q => Or.inl (by revert q; simp; try omega)) (by simp))).trans (CHN.of f173 (by simp) (fun z q => Or.inl (by revert q; simp; try omega)) (by simp))).trans (CHN.of f188 (by simp) (fun z q => Or.inl (by revert q; simp; try omega)) (by simp))).trans (CHN.sub f199 (by simp) (by simp) (by simp))).fld (by simp) (by decide)).trans (CHN.of f213 (by simp) (fun z q => by rw [List.mem_singleton.mp q]; exact (ex9.imp (fun e => by rw [e]; simp) id)) (by simp))).trans (CHN.of f223 (by simp) (fun z q => by rw [List.mem_singleton.mp q]; exact (ex9.imp (fun e => by rw [e]; simp) id)) (by simp))), Or.inr ⟨rfl, hmc9, x29, v55, v63 + 1, v72 + 1, f54, f62, f71, ⟨rc_F F227 (Or.inl (by decide)) (by decide) (rc_F F217 (Or.inl (by decide)) (by decide) (rc_o (by decide) (e59))), ex9⟩, (by rw [show σ220.2.1 6 h = σ195.2.1 6 h from rc_F F227 (Or.inl (by decide)) (by decide) (rc_F F217 (Or.inl (by decide)) (by decide) (rc_o (by decide) (rfl)))]; omega), hfn9.1, hfn9.2.1, hfn9.2.2, (by rw [show σ220.2.1 10 h = σ170.2.1 10 h from rc_F F227 (Or.inl (by decide)) (by decide) (rc_F F217 (Or.inl (by decide)) (by decide) (rc_o (by decide) (rc_F F204 (Or.inl (by decide)) (by decide) (rc_F F193 (Or.inl (by decide)) (by decide) (rfl)))))]; omega), (by omega), (by rw [cv228]; exact f175), (by rw [cv229]; exact f176), (by rw [cv230]; exact f177), (by rw [cv231]; exact f178), (by rw [cv232]; exact f179)⟩⟩
      · refine tn_iconst dX4_meltAt_120 ?_
        exact tn_zret (v := 0) rfl (by decide) dX4_meltAt_121 ⟨_, rfl, ((((w28.put (by decide) (by decide) (fo_27 (by omega))).put (by decide) (by decide) (fo_28 (by omega))).put (by decide) (by decide) (fo_29 (by omega))).put (by decide) (by decide) (fo_30 (by omega))), (((((FrC.rfl.trans (FrC.sub F29 (by decide))).put (by decide) (by decide)).put (by decide) (by decide)).put (by decide) (by decide)).put (by decide) (by decide)), by omega, (((((CHN.rfl.trans (CHN.of f25 (by simp) (fun z q => Or.inl (by revert q; simp; try omega)) (by simp))).fld (by simp) (by decide)).fld (by simp) (by decide)).fld (by simp) (by decide)).fld (by simp) (by decide)), Or.inl ⟨rfl, (fun q => q.2.1.elim (fun a e => e.elim (fun b e => by have z1 := f54.det e.1; have z2 := f101.det e.2.1; omega))), (((((CHX.rfl.trans (CHX.sub f25 (by simp) (by simp) (by simp))).fld (by simp) (by decide)).fld (by simp) (by decide)).fld (by simp) (by decide)).fld (by simp) (by decide))⟩⟩
end
section
def cRS (n : Int) (W : Int → It) (F : Int) (Hr Hp Hl Hn Hh : Int → Int) : RTS := (n, vW W, F, fun f => if 0 ≤ f ∧ f < F then Hr f else 0, fun f => if 0 ≤ f ∧ f < F then Hp f else 0, fun f => if 0 ≤ f ∧ f < F then Hl f else 0, fun f m => if (0 ≤ f ∧ f < F) ∧ 0 ≤ m ∧ m < Hn f then Hh (12 * f + m) else 0)
section CRS
variable {n F ng Fg k base lb lq P Ng g : Int} {W Wg W2 : Int → It} {Hr Hp Hl Hn Hh Gr Gp Gl Gn Gh NM : Int → Int}
theorem hm_c (hN : ∀ f, 0 ≤ f → f < F → NM (Hr f) = Hn f) : hmS (cRS n W F Hr Hp Hl Hn Hh) NM g ↔ hmC F Hn Hh g := by
  have fo : ∀ f, 0 ≤ f → f < F → (cRS n W F Hr Hp Hl Hn Hh).fo f = Hr f := fun f a b => if_pos ⟨a, b⟩
  constructor
  · rintro ⟨f, f0, f1, m, m0, m1, e⟩
    have f1' : f < F := f1
    rw [fo f f0 f1', hN f f0 f1'] at m1
    have e' : (if (0 ≤ f ∧ f < F) ∧ 0 ≤ m ∧ m < Hn f then Hh (12 * f + m) else 0) = g := e
    rw [if_pos ⟨⟨f0, f1'⟩, m0, m1⟩] at e'
    exact ⟨f, f0, f1', m, m0, m1, e'⟩
  · rintro ⟨f, f0, f1, m, m0, m1, e⟩
    refine ⟨f, f0, f1, m, m0, by rw [fo f f0 f1, hN f f0 f1]; exact m1, ?_⟩
    show (if (0 ≤ f ∧ f < F) ∧ 0 ≤ m ∧ m < Hn f then Hh (12 * f + m) else 0) = g
    rw [if_pos ⟨⟨f0, f1⟩, m0, m1⟩]; exact e
theorem na_c {m : Int} (h1 : 1 ≤ F) (hm : 0 ≤ m ∧ m < Hn 0) : (cRS n W F Hr Hp Hl Hn Hh).na 0 m = Hh m := by
  show (if ((0 : Int) ≤ 0 ∧ 0 < F) ∧ 0 ≤ m ∧ m < Hn 0 then Hh (12 * 0 + m) else 0) = Hh m
  rw [if_pos ⟨by omega, hm⟩, show 12 * 0 + m = m by omega]
theorem lv_c (h1 : 1 ≤ F) (hp : P ≤ Hn 0) : lvS (cRS n W F Hr Hp Hl Hn Hh) P g ↔ lvQ (vW W) n Hh P g := by
  unfold lvS lvQ pmS pmC
  have e : (∃ j, 0 ≤ j ∧ j < P ∧ (cRS n W F Hr Hp Hl Hn Hh).na 0 j = g) ↔ ∃ j, 0 ≤ j ∧ j < P ∧ Hh j = g := by
    constructor
    · rintro ⟨j, a, b, c⟩
      exact ⟨j, a, b, by rw [← c]; exact (na_c h1 ⟨a, by omega⟩).symm⟩
    · rintro ⟨j, a, b, c⟩
      exact ⟨j, a, b, by rw [na_c h1 ⟨a, by omega⟩]; exact c⟩
  rw [e]
  exact Iff.rfl
theorem mk_c (h1 : 1 ≤ Fg) (hp : P ≤ Ng) (h0 : Gn 0 = Ng) : mkS (cRS n W F Hr Hp Hl Hn Hh) (cRS ng Wg Fg Gr Gp Gl Gn Gh) k base lb lq P Ng = mkC (vW W) (vW Wg) k F base lb lq P Ng ng Gh := mkB_c (fun m a b => na_c h1 ⟨a, by omega⟩) (fun g _ _ => lv_c h1 (by omega))
theorem mlc_c (h1 : 1 ≤ Fg) (hp : P ≤ Ng) (h0 : Gn 0 = Ng) (hN : ∀ f, 0 ≤ f → f < F → NM (Hr f) = Hn f) (hG : ∀ f, 0 ≤ f → f < Fg → NM (Gr f) = Gn f) : mlC (cRS n W F Hr Hp Hl Hn Hh) (cRS ng Wg Fg Gr Gp Gl Gn Gh) P Ng NM ↔ (∀ j, 0 ≤ j → j < ng → vW Wg j 0 ≠ 10) ∧ cN (fun j => vW Wg j 0 ≤ 10) 0 ng.toNat ≤ 20 ∧ MCD (vW W) (vW Wg) n ng Ng P F Fg Hn Hh Gn Gh := by
  have ec : cN (lvS (cRS ng Wg Fg Gr Gp Gl Gn Gh) P) 0 192 = cN (lvQ (vW Wg) ng Gh P) 0 192 := cN_ext (fun i _ _ => lv_c h1 (by omega))
  have e1 : ∀ B, rgV (vW W) n (hmS (cRS n W F Hr Hp Hl Hn Hh) NM) B ↔ rgV (vW W) n (hmC F Hn Hh) B := fun B => rgV_c (fun g => hm_c hN)
  have e2 : ∀ B, rgV (vW Wg) ng (hmS (cRS ng Wg Fg Gr Gp Gl Gn Gh) NM) B ↔ rgV (vW Wg) ng (hmC Fg Gn Gh) B := fun B => rgV_c (fun g => hm_c hG)
  unfold mlC MCD
  show ((∀ j, 0 ≤ j → j < ng → vW Wg j 0 ≠ 10) ∧ cN (fun j => vW Wg j 0 ≤ 10) 0 ng.toNat ≤ 20 ∧ n + 2 + P + Ng + ng + cN (lvS (cRS ng Wg Fg Gr Gp Gl Gn Gh) P) 0 192 + cN (fun j => vW Wg j 0 = 7) 0 ng.toNat ≤ 200 ∧ (∃ a b, mxV (rgV (vW W) n (hmS (cRS n W F Hr Hp Hl Hn Hh) NM)) a ∧ mxV (rgV (vW Wg) ng (hmS (cRS ng Wg Fg Gr Gp Gl Gn Gh) NM)) b ∧ a + b ≤ 100) ∧ F + Fg ≤ 12) ↔ _
  rw [ec]
  constructor
  · rintro ⟨a, b, c, ⟨u, v, x, y, z⟩, d⟩
    exact ⟨a, b, c, ⟨u, v, x.c e1, y.c e2, z⟩, d⟩
  · rintro ⟨a, b, c, ⟨u, v, x, y, z⟩, d⟩
    exact ⟨a, b, c, ⟨u, v, x.c (fun B => (e1 B).symm), y.c (fun B => (e2 B).symm), z⟩, d⟩
theorem mlt_c {j0 n2 : Int} {Hr2 Hp2 Hl2 Hn2 Hh2 : Int → Int} (h1 : 1 ≤ Fg ∧ 1 ≤ F) (hp : P ≤ Ng) (h0 : Gn 0 = Ng) (hN : ∀ f, 0 ≤ f → f < F → NM (Hr f) = Hn f) (hG : ∀ f, 0 ≤ f → f < Fg → NM (Gr f) = Gn f) (h12 : ∀ f, 0 ≤ f → f < F → Hn f ≤ 12) (en : n2 = n + (mkC (vW W) (vW Wg) k F base lb lq P Ng ng Gh).1 - 1) (eW : vW W2 = spV (vW W) k (mkC (vW W) (vW Wg) k F base lb lq P Ng ng Gh).1 (mkC (vW W) (vW Wg) k F base lb lq P Ng ng Gh).2) (s1 : SPR Hr2 Hr Gr F Fg) (s2 : SPR Hp2 Hp (fun f => if f = 0 then W j0 2 else F + Gp f) F Fg) (s3 : SPR Hl2 Hl (fun f => if f = 0 then W j0 1 else Gl f) F Fg) (s4 : SPR Hn2 Hn Gn F Fg) (s5 : HMR Hh2 Hh Gn Gh base F Fg 0) : cRS n2 W2 (F + Fg) Hr2 Hp2 Hl2 Hn2 Hh2 = mltS (cRS n W F Hr Hp Hl Hn Hh) (cRS ng Wg Fg Gr Gp Gl Gn Gh) k base lb lq j0 P Ng NM := by
  unfold mltS
  rw [mk_c h1.1 hp h0]
  unfold cRS
  refine Prod.ext en (Prod.ext eW (Prod.ext rfl (Prod.ext ?_ (Prod.ext ?_ (Prod.ext ?_ ?_)))))
  · funext f
    show (if 0 ≤ f ∧ f < F + Fg then Hr2 f else 0) = if f < F then (if 0 ≤ f ∧ f < F then Hr f else 0) else if f < F + Fg then (if 0 ≤ f - F ∧ f - F < Fg then Gr (f - F) else 0) else 0
    rw [s1 f]
    by_cases a : f < F
    · rw [if_pos a, if_neg (show ¬ (F ≤ f ∧ f < F + Fg) by omega)]
      by_cases b : 0 ≤ f
      · rw [if_pos (by omega), if_pos (by omega)]
      · rw [if_neg (by omega), if_neg (by omega)]
    · rw [if_neg a]
      by_cases b : f < F + Fg
      · rw [if_pos (by omega), if_pos (by omega), if_pos b, if_pos (by omega)]
      · rw [if_neg (by omega), if_neg b]
  · funext f
    show (if 0 ≤ f ∧ f < F + Fg then Hp2 f else 0) = if f < F then (if 0 ≤ f ∧ f < F then Hp f else 0) else if f = F then vW W j0 2 else if f < F + Fg then (if 0 ≤ f - F ∧ f - F < Fg then Gp (f - F) else 0) + F else 0
    rw [s2 f]
    by_cases a : f < F
    · rw [if_pos a, if_neg (show ¬ (F ≤ f ∧ f < F + Fg) by omega)]
      by_cases b : 0 ≤ f
      · rw [if_pos (by omega), if_pos (by omega)]
      · rw [if_neg (by omega), if_neg (by omega)]
    · rw [if_neg a]
      by_cases e : f = F
      · rw [if_pos e, if_pos (by omega), if_pos (by omega), vW_ne (by decide) (by decide)]
        show (if f - F = 0 then W j0 2 else F + Gp (f - F)) = _
        rw [if_pos (by omega)]
      · rw [if_neg e]
        by_cases b : f < F + Fg
        · rw [if_pos (by omega), if_pos (by omega), if_pos b, if_pos (by omega)]
          show (if f - F = 0 then W j0 2 else F + Gp (f - F)) = _
          rw [if_neg (by omega)]; omega
        · rw [if_neg (by omega), if_neg b]
  · funext f
    show (if 0 ≤ f ∧ f < F + Fg then Hl2 f else 0) = if f < F then (if 0 ≤ f ∧ f < F then Hl f else 0) else if f = F then vW W j0 1 else if f < F + Fg then (if 0 ≤ f - F ∧ f - F < Fg then Gl (f - F) else 0) else 0
    rw [s3 f]
    by_cases a : f < F
    · rw [if_pos a, if_neg (show ¬ (F ≤ f ∧ f < F + Fg) by omega)]
      by_cases b : 0 ≤ f
      · rw [if_pos (by omega), if_pos (by omega)]
      · rw [if_neg (by omega), if_neg (by omega)]
    · rw [if_neg a]
      by_cases e : f = F
      · rw [if_pos e, if_pos (by omega), if_pos (by omega), vW_1]
        show (if f - F = 0 then W j0 1 else Gl (f - F)) = _
        rw [if_pos (by omega)]
      · rw [if_neg e]
        by_cases b : f < F + Fg
        · rw [if_pos (by omega), if_pos (by omega), if_pos b, if_pos (by omega)]
          show (if f - F = 0 then W j0 1 else Gl (f - F)) = _
          rw [if_neg (by omega)]
        · rw [if_neg (by omega), if_neg b]
  · funext f m
    show (if (0 ≤ f ∧ f < F + Fg) ∧ 0 ≤ m ∧ m < Hn2 f then Hh2 (12 * f + m) else 0) = if f < F then (if (0 ≤ f ∧ f < F) ∧ 0 ≤ m ∧ m < Hn f then Hh (12 * f + m) else 0) else if f < F + Fg ∧ 0 ≤ m ∧ m < NM (if 0 ≤ f - F ∧ f - F < Fg then Gr (f - F) else 0) then (if (0 ≤ f - F ∧ f - F < Fg) ∧ 0 ≤ m ∧ m < Gn (f - F) then Gh (12 * (f - F) + m) else 0) + base else 0
    rw [s4 f]
    by_cases a : f < F
    · rw [if_pos a, if_neg (show ¬ (F ≤ f ∧ f < F + Fg) by omega)]
      by_cases b : (0 ≤ f ∧ f < F) ∧ 0 ≤ m ∧ m < Hn f
      · have := h12 f b.1.1 b.1.2
        rw [if_pos ⟨by omega, b.2⟩, if_pos b, s5.2 _ (by omega)]
      · rw [if_neg (fun z => b ⟨⟨z.1.1, a⟩, z.2⟩), if_neg b]
    · rw [if_neg a]
      by_cases b : f < F + Fg
      · rw [if_pos (show F ≤ f ∧ f < F + Fg by omega), if_pos (show 0 ≤ f - F ∧ f - F < Fg by omega), hG (f - F) (by omega) (by omega)]
        by_cases c : 0 ≤ m ∧ m < Gn (f - F)
        · have e := s5.1 (f - F) m (by omega) (Or.inl (by omega)) c.1 c.2
          rw [show 12 * (F + (f - F)) + m = 12 * f + m by omega] at e
          rw [if_pos ⟨by omega, c⟩, if_pos ⟨b, c⟩, if_pos ⟨by omega, c⟩, e]; omega
        · rw [if_neg (fun z => c z.2), if_neg (fun z => c z.2)]
      · rw [if_neg (fun z => b z.1.2), if_neg (fun z => b z.1)]
end CRS
def LNC (V : Int → It) (n : Int) : Prop := ∀ k, 0 ≤ k → k < n → V k 0 = 10 → ∃ j, lnA V k j
theorem LNC.sp {V V2 : Int → It} {n k a : Int} {B : Int → It} (h : LNC V n) (hk : 0 ≤ k ∧ k < n) (hc : V k 0 = 10) (ha : 1 ≤ a) (e : V2 = spV V k a B) (hb : ∀ j, k ≤ j → j < k + a → V2 j 0 ≠ 10) : LNC V2 (n + a - 1) := fun i i0 i1 i2 => by
  have lo : ∀ i, i < k → V2 i = V i := fun i c => by rw [e]; unfold spV; rw [if_pos c]
  have hi : ∀ i, k + a ≤ i → V2 i = V (i - a + 1) := fun i c => by rw [e]; unfold spV; rw [if_neg (by omega), if_neg (by omega)]
  by_cases c : i < k
  · rw [lo i c] at i2
    obtain ⟨j, j0, j1, j2, j3⟩ := h i i0 (by omega) i2
    exact ⟨j, j0, j1, by rw [lo j (by omega)]; exact j2, fun q q0 q1 => by rw [lo q (by omega)]; exact j3 q q0 q1⟩
  · by_cases d : i < k + a
    · exact absurd i2 (hb i (by omega) d)
    · rw [hi i (by omega)] at i2
      obtain ⟨j, j0, j1, j2, j3⟩ := h (i - a + 1) (by omega) (by omega) i2
      have jk : k < j := by
        by_cases x : j = k
        · rw [x] at j2; omega
        · by_cases y : j < k
          · have := j3 k y (by omega); omega
          · omega
      refine ⟨j + a - 1, by omega, by omega, ?_, fun q q0 q1 => ?_⟩
      · rw [hi _ (by omega), show j + a - 1 - a + 1 = j by omega]; exact j2
      · rw [hi q (by omega)]; exact j3 _ (by omega) (by omega)
theorem CLQ.spc {V V2 : Int → It} {n k a C : Int} {B : Int → It} (h : CLQ V n C) (hk : 0 ≤ k ∧ k < n) (ha : 1 ≤ a) (e : V2 = spV V k a B) (hb : ∀ j, k ≤ j → j < k + a → V2 j 0 ≠ 10) : CLQ V2 (n + a - 1) C := fun i i0 i1 i2 => by
  have lo : ∀ i, i < k → V2 i = V i := fun i c => by rw [e]; unfold spV; rw [if_pos c]
  have hi : ∀ i, k + a ≤ i → V2 i = V (i - a + 1) := fun i c => by rw [e]; unfold spV; rw [if_neg (by omega), if_neg (by omega)]
  by_cases c : i < k
  · rw [lo i c] at i2 ⊢; exact h i i0 (by omega) i2
  · by_cases d : i < k + a
    · exact absurd i2 (hb i (by omega) d)
    · rw [hi i (by omega)] at i2 ⊢; exact h _ (by omega) (by omega) i2
def HWF (n : Int) (W : Int → It) (F : Int) (Hr Hp Hn Hh NM : Int → Int) (R : Int) : Prop := (0 ≤ n ∧ n ≤ 200) ∧ (1 ≤ F ∧ F ≤ 12) ∧ QOK F W n ∧ HNO Hn Hh F ∧ (∀ f, 0 ≤ f → f < F → (0 ≤ Hn f ∧ Hn f ≤ 12) ∧ NM (Hr f) = Hn f) ∧ LNC (vW W) n ∧ CLQ (vW W) n R ∧ ∀ f, 0 ≤ f → f < F → -1 ≤ Hp f ∧ Hp f < F
def GWF (n : Int) (W : Int → It) (F : Int) (Hr Hp Hn Hh NM : Int → Int) (R P N : Int) : Prop := HWF n W F Hr Hp Hn Hh NM R ∧ (∀ j, 0 ≤ j → j < n → rZ7 (W j)) ∧ MOK W n ∧ LNK W n ∧ UNQ (vW W) n ∧ ((0 ≤ P ∧ P ≤ 4 ∧ P ≤ N) ∧ N ≤ 12) ∧ Hn 0 = N
theorem HWF.melt {n F ng Fg k base lb lq P Ng j0 R n2 : Int} {W Wg W2 : Int → It} {Hr Hp Hn Hh Gr Gp Gn Gh NM Hr2 Hp2 Hn2 Hh2 : Int → Int} (h : HWF n W F Hr Hp Hn Hh NM R) (g : GWF ng Wg Fg Gr Gp Gn Gh NM R P Ng) (hk : 0 ≤ k ∧ k < n) (hc : W k 0 = 10) (hl : lnA (vW W) k j0) (hm : MCD (vW W) (vW Wg) n ng Ng P F Fg Hn Hh Gn Gh) (mb : mxV (rgV (vW W) n (hmC F Hn Hh)) base) (en : n2 = n + (mkC (vW W) (vW Wg) k F base lb lq P Ng ng Gh).1 - 1) (ha : 1 ≤ (mkC (vW W) (vW Wg) k F base lb lq P Ng ng Gh).1) (eW : vW W2 = spV (vW W) k (mkC (vW W) (vW Wg) k F base lb lq P Ng ng Gh).1 (mkC (vW W) (vW Wg) k F base lb lq P Ng ng Gh).2) (hq : QOK (F + Fg) W2 n2) (hb : ∀ j, k ≤ j → j < k + (mkC (vW W) (vW Wg) k F base lb lq P Ng ng Gh).1 → W2 j 0 ≠ 10) (s1 : SPR Hr2 Hr Gr F Fg) (s2 : SPR Hp2 Hp (fun f => if f = 0 then W j0 2 else F + Gp f) F Fg) (s4 : SPR Hn2 Hn Gn F Fg) (s5 : HMR Hh2 Hh Gn Gh base F Fg 0) : HWF n2 W2 (F + Fg) Hr2 Hp2 Hn2 Hh2 NM R := by
  obtain ⟨h1, h2, h3, h4, h5, h6, h7, h8⟩ := h
  obtain ⟨⟨g1, g2, g3, g4, g5, g6, g7, g8⟩, -, -, -, -, gp, g0⟩ := g
  obtain ⟨m1, ⟨a, b, m2, m3, m4⟩, m5⟩ := hm
  have eb := mb.det m2
  have nn := mc_n (V := vW W) (Vg := vW Wg) (k := k) (Fh := F) (base := base) (lb := lb) (lq := lq) (Gh := Gh) (P := P) (Ng := Ng) (ng := ng) (by omega) (by omega) (by omega)
  have hb' : ∀ j, k ≤ j → j < k + (mkC (vW W) (vW Wg) k F base lb lq P Ng ng Gh).1 → vW W2 j 0 ≠ 10 := fun j x y => by rw [vW_0]; exact hb j x y
  have jl := h3 j0 hl.1 (by have := hl.2.1; omega)
  have jk := hl.2.2.1
  rw [vW_0] at jk
  have j2 := jl.2.2.1 (Or.inl jk)
  refine ⟨⟨by omega, by omega⟩, ⟨by omega, by omega⟩, hq, fun f m f0 f1 m0 m1' => ?_, fun f f0 f1 => ?_, by rw [en]; exact h6.sp hk (by rw [vW_0]; exact hc) ha eW hb', by rw [en]; exact h7.spc hk ha eW hb', fun f f0 f1 => ?_⟩
  · rw [s4 f] at m1'
    by_cases c : F ≤ f ∧ f < F + Fg
    · rw [if_pos c] at m1'
      have e := s5.1 (f - F) m (by omega) (Or.inl (by omega)) m0 m1'
      rw [show 12 * (F + (f - F)) + m = 12 * f + m by omega] at e
      have x := g4 (f - F) m (by omega) (by omega) m0 m1'
      have y := m3.2.1.1 (Gh (12 * (f - F) + m)) ⟨f - F, by omega, by omega, m, m0, m1', rfl⟩
      have := mb.1
      omega
    · rw [if_neg c] at m1'
      have x := (h5 f f0 (by omega)).1
      rw [s5.2 _ (by omega)]; exact h4 f m f0 (by omega) m0 m1'
  · rw [s4 f, s1 f]
    by_cases c : F ≤ f ∧ f < F + Fg
    · rw [if_pos c, if_pos c]; exact g5 (f - F) (by omega) (by omega)
    · rw [if_neg c, if_neg c]; exact h5 f f0 (by omega)
  · rw [s2 f]
    by_cases c : F ≤ f ∧ f < F + Fg
    · rw [if_pos c]
      show -1 ≤ (if f - F = 0 then W j0 2 else F + Gp (f - F)) ∧ (if f - F = 0 then W j0 2 else F + Gp (f - F)) < F + Fg
      by_cases d : f - F = 0
      · rw [if_pos d]; omega
      · rw [if_neg d]
        have := g8 (f - F) (by omega) (by omega)
        omega
    · rw [if_neg c]
      have := h8 f f0 (by omega)
      omega
end
section
def adN (σ : MS) (f b : Nat) : Nat := (σ.2.1 f b).toNat
def rwF (σ : MS) (f b : Nat) : Int → Int := σ.2.1 (1000 + adN σ f b)
def cdW (σ : MS) (b : Nat) : Int → It := cW σ (adN σ 5 b) (σ.2.1 6 b)
def cdS (σ : MS) (b : Nat) : RTS := cRS (σ.2.1 6 b) (cdW σ b) (σ.2.1 10 b) (rwF σ 11 b) (rwF σ 12 b) (rwF σ 13 b) (rwF σ 14 b) (rwF σ 15 b)
def cdH (σ : MS) (b : Nat) (NM : Int → Int) (R : Int) : Prop := HWF (σ.2.1 6 b) (cdW σ b) (σ.2.1 10 b) (rwF σ 11 b) (rwF σ 12 b) (rwF σ 14 b) (rwF σ 15 b) NM R
def cdG (σ : MS) (b : Nat) (NM : Int → Int) (R : Int) : Prop := GWF (σ.2.1 6 b) (cdW σ b) (σ.2.1 10 b) (rwF σ 11 b) (rwF σ 12 b) (rwF σ 14 b) (rwF σ 15 b) NM R (σ.2.1 8 b) (σ.2.1 7 b)
abbrev AF6 : List Nat := [5, 11, 12, 13, 14, 15]
section ADS
variable {T T2 : CT} {σ τ : MS} {a b c f x : Nat} {ks : List (Nat × Nat)} {rs ls : List Nat} {NM : Int → Int} {R : Int}
theorem adN_of (h : σ.2.1 f b = (x : Int)) : adN σ f b = x := by unfold adN; rw [h]; exact Int.toNat_natCast x
theorem ad_ex {Q : Nat → Prop} (h : ∃ x : Nat, σ.2.1 f b = (x : Int) ∧ Q x) : σ.2.1 f b = ((adN σ f b : Nat) : Int) ∧ Q (adN σ f b) := by
  obtain ⟨x, e, q⟩ := h
  rw [adN_of e]; exact ⟨e, q⟩
theorem cd_ad (hw : WT T σ) (hb : (T b).1 = 50) : ∀ f, f ∈ AF6 → σ.2.1 f b = ((adN σ f b : Nat) : Int) ∧ ((T (adN σ f b)).1 = 1 ∨ (T (adN σ f b)).1 = 11) := by
  have ob : OB T b 1 := ⟨by omega, by rw [hb]; rfl, by omega⟩
  intro f hf
  simp only [List.mem_cons, List.not_mem_nil, or_false] at hf
  rcases hf with rfl | rfl | rfl | rfl | rfl | rfl
  · have z := ad_ex (Q := fun x => (208 ≤ (T x).2 ∧ (T x).2 ≤ 2600) ∧ ((T b).1 = 50 → (T x).1 = 1) ∧ ((T b).1 ≠ 50 → (T x).1 = 13)) (wf_5 hw ob)
    exact ⟨z.1, Or.inl (z.2.2.1 hb)⟩
  · have z := ad_ex (Q := fun x => AR T x 1 12 12) (wf_11 hw ob); exact ⟨z.1, Or.inl z.2.1⟩
  · have z := ad_ex (Q := fun x => AR T x 1 12 12) (wf_12 hw ob); exact ⟨z.1, Or.inl z.2.1⟩
  · have z := ad_ex (Q := fun x => AR T x 1 12 12) (wf_13 hw ob); exact ⟨z.1, Or.inl z.2.1⟩
  · have z := ad_ex (Q := fun x => AR T x 11 12 12) (wf_14 hw ob); exact ⟨z.1, Or.inr z.2.1⟩
  · have z := ad_ex (Q := fun x => AR T x 1 144 144) (wf_15 hw ob); exact ⟨z.1, Or.inl z.2.1⟩
def CSM (σ τ : MS) (b : Nat) : Prop := (∀ f, 5 ≤ f → f ≤ 16 → τ.2.1 f b = σ.2.1 f b) ∧ ∀ f, f ∈ AF6 → τ.2.1 (1000 + adN σ f b) = σ.2.1 (1000 + adN σ f b)
theorem CSM.ad (h : CSM σ τ b) (h0 : 5 ≤ f) (h1 : f ≤ 16) : adN τ f b = adN σ f b := by unfold adN; rw [h.1 f h0 h1]
theorem CSM.rw (h : CSM σ τ b) (hf : f ∈ AF6) (h0 : 5 ≤ f) (h1 : f ≤ 16) : rwF τ f b = rwF σ f b := by unfold rwF; rw [h.ad h0 h1]; exact h.2 f hf
theorem CSM.w (h : CSM σ τ b) : cdW τ b = cdW σ b := by
  unfold cdW
  rw [h.ad (f := 5) (by decide) (by decide), h.1 6 (by decide) (by decide)]
  exact cW_row (h.2 5 (by decide))
theorem CSM.s (h : CSM σ τ b) : cdS τ b = cdS σ b := by
  unfold cdS
  rw [h.w, h.1 6 (by decide) (by decide), h.1 10 (by decide) (by decide), h.rw (f := 11) (by decide) (by decide) (by decide), h.rw (f := 12) (by decide) (by decide) (by decide), h.rw (f := 13) (by decide) (by decide) (by decide), h.rw (f := 14) (by decide) (by decide) (by decide), h.rw (f := 15) (by decide) (by decide) (by decide)]
theorem CSM.h (h : CSM σ τ b) (g : cdH σ b NM R) : cdH τ b NM R := by
  unfold cdH
  rw [h.w, h.1 6 (by decide) (by decide), h.1 10 (by decide) (by decide), h.rw (f := 11) (by decide) (by decide) (by decide), h.rw (f := 12) (by decide) (by decide) (by decide), h.rw (f := 14) (by decide) (by decide) (by decide), h.rw (f := 15) (by decide) (by decide) (by decide)]
  exact g
theorem CSM.g (h : CSM σ τ b) (g : cdG σ b NM R) : cdG τ b NM R := by
  unfold cdG
  rw [h.w, h.1 6 (by decide) (by decide), h.1 7 (by decide) (by decide), h.1 8 (by decide) (by decide), h.1 10 (by decide) (by decide), h.rw (f := 11) (by decide) (by decide) (by decide), h.rw (f := 12) (by decide) (by decide) (by decide), h.rw (f := 14) (by decide) (by decide) (by decide), h.rw (f := 15) (by decide) (by decide) (by decide)]
  exact g
theorem CSM.of (h : CHN T ks rs ls σ τ) (hf : ∀ p, p ∈ ks → p.2 ≠ b ∨ p.1 < 5 ∨ 16 < p.1) (hr : ∀ f, f ∈ AF6 → adN σ f b ∉ rs) (hT : ∀ f, f ∈ AF6 → (T (adN σ f b)).1 ≠ 0 ∧ (T (adN σ f b)).1 < 80) : CSM σ τ b := ⟨fun f h0 h1 => h.f (by omega) (fun q => by
  have z := hf _ q
  simp at z
  omega), fun f q => h.r (hT f q) (hr f q)⟩
end ADS
abbrev KSM (a c : Nat) : List (Nat × Nat) := [(27, a), (28, a), (29, a), (30, a), (31, a), (32, a), (5, c), (6, c), (10, c)]
abbrev RSM (σ : MS) (a c : Nat) : List Nat := [adN σ 5 c, adN σ 11 c, adN σ 12 c, adN σ 13 c, adN σ 14 c, adN σ 15 c, adN σ 24 a]
abbrev LSM (σ : MS) (a : Nat) : List Nat := [adN σ 18 (adN σ 23 a), adN σ 19 (adN σ 23 a)]
def MAO (T : CT) (σ σ2 : MS) (h g : Nat) (NM : Int → Int) (R k v : Int) : Prop := (v = 0 ∧ ¬ mlC (cdS σ h) (cdS σ g) (σ.2.1 8 g) (σ.2.1 7 g) NM ∧ CSM σ σ2 h) ∨ (v = 1 ∧ mlC (cdS σ h) (cdS σ g) (σ.2.1 8 g) (σ.2.1 7 g) NM ∧ (∃ base lb lq j0, mxV (rgV (cdS σ h).V (cdS σ h).n (hmS (cdS σ h) NM)) base ∧ mxV (lbV (cdS σ h).V (cdS σ h).n) lb ∧ mxV (lbV (cdS σ g).V (cdS σ g).n) lq ∧ lnA (cdS σ h).V k j0 ∧ cdS σ2 h = mltS (cdS σ h) (cdS σ g) k base lb lq j0 (σ.2.1 8 g) (σ.2.1 7 g) NM ∧ 1 ≤ (mkS (cdS σ h) (cdS σ g) k base lb lq (σ.2.1 8 g) (σ.2.1 7 g)).1 ∧ ∀ j, k ≤ j → j < k + (mkS (cdS σ h) (cdS σ g) k base lb lq (σ.2.1 8 g) (σ.2.1 7 g)).1 → (cdS σ2 h).V j 0 ≠ 10) ∧ cdH σ2 h NM R ∧ (σ2.2.1 5 h = σ.2.1 5 h ∨ (T (adN σ2 5 h)).1 = 0))
theorem al_gt {T T2 : CT} {x : Nat} (g : GT T T2) (h : (T2 x).1 = 0) : ¬ ((T x).1 ≠ 0 ∧ (T x).1 < 80) := fun z => z.1 (by rw [← g x z.1 z.2]; exact h)
set_option maxHeartbeats 1000000 in
theorem k_X4_meltAt_c (d : Nat) {T : CT} {σ : MS} {a : Nat} {k : Int} {h g : Nat} {NM : Int → Int} {R : Int} (ha : OB T a 4) (h_k : -2147483648 ≤ k ∧ k ≤ 2147483647) (hw : WT T σ) (hh : σ.2.1 25 a = (h : Int)) (hg : σ.2.1 26 a = (g : Int)) (hgh : g ≠ h) (hds : DS [adN σ 5 h, adN σ 11 h, adN σ 12 h, adN σ 13 h, adN σ 14 h, adN σ 15 h, adN σ 5 g, adN σ 11 g, adN σ 12 g, adN σ 13 g, adN σ 14 g, adN σ 15 g, adN σ 24 a]) (hl2 : adN σ 18 (adN σ 23 a) ≠ adN σ 19 (adN σ 23 a)) (hH : cdH σ h NM R) (hG : cdG σ g NM R) (hkn : 0 ≤ k ∧ k < σ.2.1 6 h) (hk10 : cdW σ h k 0 = 10) (hnc : ∀ j, 0 ≤ j → j < σ.2.1 6 g → cdW σ g j 0 ≠ 10) (hac : cN (fun j => cdW σ g j 0 ≤ 10) 0 (σ.2.1 6 g).toNat ≤ 20) : Tn (d + 5) m_X4_meltAt 0 T σ [(0, .ref a), (1, .int (iI k))] [] (fun ro T2 σ2 => ∃ v : Int, ro = some (.int (iI v)) ∧ WT T2 σ2 ∧ FrC T [5, 6, 10, 27, 28, 29, 30, 31, 32] σ σ2 ∧ (v = 0 ∨ v = 1) ∧ CHN T (KSM a h) (RSM σ a h) (LSM σ a) σ σ2 ∧ MAO T σ σ2 h g NM R k v) := by
  have hh9 : (T h).1 = 50 := ob_of ((wf_25 hw ha).resolve_left (by omega)) hh
  have hg9 : (T g).1 = 50 := ob_of ((wf_26 hw ha).resolve_left (by omega)) hg
  have hh8 : OB T h 1 := ⟨by omega, by rw [hh9]; rfl, by omega⟩
  have eh := cd_ad hw hh9
  have eg := cd_ad hw hg9
  have eq := ad_ex (Q := fun x => AR T x 1 8 8) (wf_24 hw ha)
  have efl := ad_ex (Q := fun x => (T x).1 = 33) (wf_23 hw ha)
  have hfl : OB T (adN σ 23 a) 3 := ⟨by have := efl.2; omega, by rw [efl.2]; rfl, by have := efl.2; omega⟩
  have exa := ad_ex (Q := fun x => AR T x 3 603 603) (wf_18 hw hfl)
  have exo := ad_ex (Q := fun x => AR T x 3 3 3) (wf_19 hw hfl)
  have hH0 := hH
  have hG0 := hG
  obtain ⟨h1, h2, h3, h4, h5, h6, h7, h8⟩ := hH
  obtain ⟨⟨g1, g2, g3, g4, g5, g6, g7, g8⟩, gz, gm, gl, gu, gp, g0⟩ := hG
  obtain ⟨j0, hj0⟩ := h6 k hkn.1 hkn.2 (by rw [vW_0]; exact hk10)
  have nh : ∀ f, 0 ≤ f → f < σ.2.1 10 h → NM (rwF σ 11 h f) = rwF σ 14 h f := fun f x y => (h5 f x y).2
  have ngf : ∀ f, 0 ≤ f → f < σ.2.1 10 g → NM (rwF σ 11 g f) = rwF σ 14 g f := fun f x y => (g5 f x y).2
  have mc : mlC (cdS σ h) (cdS σ g) (σ.2.1 8 g) (σ.2.1 7 g) NM ↔ _ := mlc_c (n := σ.2.1 6 h) (W := cdW σ h) (F := σ.2.1 10 h) (Hr := rwF σ 11 h) (Hp := rwF σ 12 h) (Hl := rwF σ 13 h) (Hn := rwF σ 14 h) (Hh := rwF σ 15 h) (ng := σ.2.1 6 g) (Wg := cdW σ g) (Fg := σ.2.1 10 g) (Gr := rwF σ 11 g) (Gp := rwF σ 12 g) (Gl := rwF σ 13 g) (Gn := rwF σ 14 g) (Gh := rwF σ 15 g) (P := σ.2.1 8 g) (Ng := σ.2.1 7 g) g2.1 gp.1.2.2 g0 nh ngf
  have nc' : ∀ j, 0 ≤ j → j < σ.2.1 6 g → vW (cdW σ g) j 0 ≠ 10 := fun j x y => by rw [vW_0]; exact hnc j x y
  have ac' : cN (fun j => vW (cdW σ g) j 0 ≤ 10) 0 (σ.2.1 6 g).toNat ≤ 20 := by
    rw [← cN_ext (P := fun j => cdW σ g j 0 ≤ 10) (fun i _ _ => by show cdW σ g i 0 ≤ 10 ↔ vW (cdW σ g) i 0 ≤ 10; rw [vW_0])]; exact hac
  refine (k_X4_meltAt_x d (k := k) (j0 := j0) ha h_k hw hh (eh 5 (by decide)).1 rfl rfl rfl (eh 11 (by decide)).1 rfl (eh 12 (by decide)).1 rfl (eh 13 (by decide)).1 rfl (eh 14 (by decide)).1 rfl (eh 15 (by decide)).1 rfl hg (eg 5 (by decide)).1 rfl rfl rfl rfl rfl (eg 11 (by decide)).1 rfl (eg 12 (by decide)).1 rfl (eg 13 (by decide)).1 rfl (eg 14 (by decide)).1 rfl (eg 15 (by decide)).1 rfl efl.1 exa.1 exo.1 eq.1 rfl h1.2 g1.2 hds hl2 hgh h3 h4 g3 gz gm gl gu g4 ⟨h2, g2⟩ (fun f x y => (g5 f x y).1) g0 gp (fun f x y => by have z : -1 ≤ σ.2.1 (1000 + adN σ 12 g) f ∧ σ.2.1 (1000 + adN σ 12 g) f < σ.2.1 10 g := g8 f x y; omega) hkn hk10 hj0 hnc).mono (fun ro T2 σ2 hp => ?_)
  obtain ⟨v, e1, e2, e3, e4, e5, e6⟩ := hp
  refine ⟨v, e1, e2, e3, e4, e5, ?_⟩
  rcases e6 with ⟨v0, nm, ch⟩ | ⟨v1, mm, x2, base, lb, lq, m1, m2, m3, ⟨m4, m5⟩, m6, m7, m8, m9, m10, ⟨-, m12⟩, s1, s2, s3, s4, s5⟩
  · refine Or.inl ⟨v0, fun z => nm (mc.mp z).2.2, ?_⟩
    exact ⟨fun f f0 f1 => ch.f (by omega) (by simp; omega), fun f q => ch.r (by simp)⟩
  · have r1 : rwF σ2 11 h = σ2.2.1 (1000 + adN σ 11 h) := by unfold rwF adN; rw [e5.f (by decide) (by simp)]
    have r2 : rwF σ2 12 h = σ2.2.1 (1000 + adN σ 12 h) := by unfold rwF adN; rw [e5.f (by decide) (by simp)]
    have r3 : rwF σ2 13 h = σ2.2.1 (1000 + adN σ 13 h) := by unfold rwF adN; rw [e5.f (by decide) (by simp)]
    have r4 : rwF σ2 14 h = σ2.2.1 (1000 + adN σ 14 h) := by unfold rwF adN; rw [e5.f (by decide) (by simp)]
    have r5 : rwF σ2 15 h = σ2.2.1 (1000 + adN σ 15 h) := by unfold rwF adN; rw [e5.f (by decide) (by simp)]
    rw [← r1] at s1
    rw [← r2] at s2
    rw [← r3] at s3
    rw [← r4] at s4
    rw [← r5] at s5
    have w2 : cdW σ2 h = cW σ2 x2 (σ2.2.1 6 h) := by unfold cdW; rw [adN_of m4]
    rw [← m6, ← w2] at m7 m8 m9
    have mS : mltS (cdS σ h) (cdS σ g) k base lb lq j0 (σ.2.1 8 g) (σ.2.1 7 g) NM = cdS σ2 h := by
      unfold cdS
      rw [m10]
      exact (mlt_c ⟨g2.1, h2.1⟩ gp.1.2.2 g0 nh ngf (fun f x y => (h5 f x y).1.2) m6 m7 s1 s2 s3 s4 s5).symm
    have kS : mkS (cdS σ h) (cdS σ g) k base lb lq (σ.2.1 8 g) (σ.2.1 7 g) = mkC (vW (cdW σ h)) (vW (cdW σ g)) k (σ.2.1 10 h) base lb lq (σ.2.1 8 g) (σ.2.1 7 g) (σ.2.1 6 g) (rwF σ 15 g) := mk_c g2.1 gp.1.2.2 g0
    refine Or.inr ⟨v1, mc.mpr ⟨nc', ac', mm⟩, ⟨base, lb, lq, j0, m1.c (fun B => rgV_c (fun q => (hm_c nh).symm)), m2, m3, hj0, mS.symm, by rw [kS]; exact m12, fun j x y => ?_⟩, ?_, ?_⟩
    · rw [kS] at y
      show vW (cdW σ2 h) j 0 ≠ 10
      rw [vW_0]; exact m9 j x y
    · unfold cdH
      rw [m10]
      exact HWF.melt hH0 hG0 hkn hk10 hj0 mm m1 m6 m12 m7 m8 m9 s1 s2 s4 s5
    · rcases m5 with z | z
      · exact Or.inl (by rw [m4, (eh 5 (by decide)).1, z])
      · exact Or.inr (by rw [adN_of m4]; exact z)
end
section
theorem DS.app {l m : List Nat} (h : DS l) (g : DS m) (e : ∀ x, x ∈ l → ∀ y, y ∈ m → x ≠ y) : DS (l ++ m) := fun i j a b hi hj hij => by
  by_cases p : i < l.length
  · rw [List.getElem?_append_left p] at hi
    by_cases q : j < l.length
    · rw [List.getElem?_append_left q] at hj
      exact h i j a b hi hj hij
    · rw [List.getElem?_append_right (by omega)] at hj
      exact e a (List.mem_of_getElem? hi) b (List.mem_of_getElem? hj)
  · rw [List.getElem?_append_right (by omega)] at hi
    by_cases q : j < l.length
    · rw [List.getElem?_append_left q] at hj
      exact fun z => e b (List.mem_of_getElem? hj) a (List.mem_of_getElem? hi) z.symm
    · rw [List.getElem?_append_right (by omega)] at hj
      exact g _ _ a b hi hj (by omega)
theorem DS.mapf {L : List Nat} {F : Nat → Nat} (hL : ∀ i : Nat, i < L.length → ∀ j : Nat, j < L.length → L[i]? = L[j]? → i = j) (hF : ∀ f, f ∈ L → ∀ g, g ∈ L → f ≠ g → F f ≠ F g) : DS (L.map F) := fun i j a b hi hj hij => by
  rw [List.getElem?_map] at hi hj
  cases p : L[i]? with
  | none => rw [p] at hi; exact absurd hi (by simp)
  | some f =>
    cases q : L[j]? with
    | none => rw [q] at hj; exact absurd hj (by simp)
    | some g =>
      rw [p] at hi
      rw [q] at hj
      have ea : F f = a := by simpa using hi
      have eb : F g = b := by simpa using hj
      rw [← ea, ← eb]
      exact hF f (List.mem_of_getElem? p) g (List.mem_of_getElem? q) (fun z => hij (hL i (List.getElem?_eq_some_iff.mp p).1 j (List.getElem?_eq_some_iff.mp q).1 (by rw [p, q, z])))
theorem DS.one {x : Nat} : DS [x] := fun i j a b hi hj hij => by
  have z := (List.getElem?_eq_some_iff.mp hi).1
  have w := (List.getElem?_eq_some_iff.mp hj).1
  simp at z w
  omega
def CDJ (σ : MS) (C : Int → Nat) (R : Int) (xq : Nat) : Prop := (∀ p q, 0 ≤ p → p < R → 0 ≤ q → q < R → C p = C q → p = q) ∧ (∀ p q f g, 0 ≤ p → p < R → 0 ≤ q → q < R → f ∈ AF6 → g ∈ AF6 → adN σ f (C p) = adN σ g (C q) → p = q ∧ f = g) ∧ ∀ p f, 0 ≤ p → p < R → f ∈ AF6 → adN σ f (C p) ≠ xq
def MLG (T0 : CT) (σ0 : MS) (a c : Nat) (C : Int → Nat) (R r : Int) (NM PM : Int → Int) : Prop := ((0 ≤ r ∧ r < R ∧ R ≤ 6) ∧ C r = c ∧ OB T0 a 4) ∧ (∀ q, 0 ≤ q → q < R → (T0 (C q)).1 = 50) ∧ CDJ σ0 C R (adN σ0 24 a) ∧ adN σ0 18 (adN σ0 23 a) ≠ adN σ0 19 (adN σ0 23 a) ∧ (∀ q, 0 ≤ q → q < R → q ≠ r → cdG σ0 (C q) NM R) ∧ ∀ q, 0 ≤ q → q < R → PM q = σ0.2.1 8 (C q) ∧ NM q = σ0.2.1 7 (C q)
def MLI (T0 : CT) (σ0 σ : MS) (a c : Nat) (C : Int → Nat) (R r : Int) (NM PM : Int → Int) (k w : Int) : Prop := CHN T0 ((26, a) :: KSM a c) (RSM σ0 a c) (LSM σ0 a) σ0 σ ∧ cdH σ c NM R ∧ (σ.2.1 5 c = σ0.2.1 5 c ∨ ¬ ((T0 (adN σ 5 c)).1 ≠ 0 ∧ (T0 (adN σ 5 c)).1 < 80)) ∧ ∃ t kR, MLR r (fun q => cdS σ0 (C q)) PM NM t (cdS σ0 c) 0 (cdS σ c) kR w ∧ (k ≤ kR ∧ kR ≤ σ.2.1 6 c) ∧ ∀ i, k ≤ i → i < kR → cdW σ c i 0 ≠ 10
section MLIS
variable {T0 T T2 : CT} {σ0 σ σ1 σ2 : MS} {a c g : Nat} {C : Int → Nat} {R r k w q v : Int} {NM PM : Int → Int}
theorem MLG.c50 (h : MLG T0 σ0 a c C R r NM PM) : (T0 c).1 = 50 := by
  have := h.2.1 r h.1.1.1 h.1.1.2.1
  rw [h.1.2.1] at this
  exact this
theorem MLI.oth (h : MLG T0 σ0 a c C R r NM PM) (hw : WT T0 σ0) (i : MLI T0 σ0 σ a c C R r NM PM k w) (q0 : 0 ≤ q) (q1 : q < R) (qr : q ≠ r) : CSM σ0 σ (C q) := by
  obtain ⟨⟨⟨r0, r1, -⟩, rc, -⟩, h50, ⟨j1, j2, j3⟩, -, -, -⟩ := h
  have ad := cd_ad hw (h50 q q0 q1)
  refine CSM.of i.1 (fun p hp => ?_) (fun f hf => ?_) (fun f hf => by have := (ad f hf).2; omega)
  · have ne : c ≠ C q := fun e => qr (j1 r q r0 r1 q0 q1 (by rw [rc]; exact e)).symm
    simp only [List.mem_cons, List.not_mem_nil, or_false] at hp
    rcases hp with rfl | rfl | rfl | rfl | rfl | rfl | rfl | rfl | rfl | rfl
    · exact Or.inr (Or.inr (by simp))
    · exact Or.inr (Or.inr (by simp))
    · exact Or.inr (Or.inr (by simp))
    · exact Or.inr (Or.inr (by simp))
    · exact Or.inr (Or.inr (by simp))
    · exact Or.inr (Or.inr (by simp))
    · exact Or.inr (Or.inr (by simp))
    · exact Or.inl ne
    · exact Or.inl ne
    · exact Or.inl ne
  · have key : ∀ g, g ∈ AF6 → adN σ0 f (C q) ≠ adN σ0 g c := fun g hg e => qr (j2 q r f g q0 q1 r0 r1 hf hg (by rw [rc]; exact e)).1
    simp only [List.mem_cons, List.not_mem_nil, or_false, not_or]
    exact ⟨key 5 (by decide), key 11 (by decide), key 12 (by decide), key 13 (by decide), key 14 (by decide), key 15 (by decide), j3 q f q0 q1 hf⟩
theorem MLI.ds (h : MLG T0 σ0 a c C R r NM PM) (hw : WT T0 σ0) (i : MLI T0 σ0 σ a c C R r NM PM k w) (q0 : 0 ≤ q) (q1 : q < R) (qr : q ≠ r) : DS [adN σ 5 c, adN σ 11 c, adN σ 12 c, adN σ 13 c, adN σ 14 c, adN σ 15 c, adN σ 5 (C q), adN σ 11 (C q), adN σ 12 (C q), adN σ 13 (C q), adN σ 14 (C q), adN σ 15 (C q), adN σ 24 a] := by
  have oth := i.oth h hw q0 q1 qr
  have c50 := h.c50
  obtain ⟨⟨⟨r0, r1, -⟩, rc, oa⟩, h50, ⟨j1, j2, j3⟩, -, -, -⟩ := h
  have adq := cd_ad hw (h50 q q0 q1)
  have adc := cd_ad hw c50
  have axq := ad_ex (Q := fun x => AR T0 x 1 8 8) (wf_24 hw oa)
  have eq24 : adN σ 24 a = adN σ0 24 a := by unfold adN; rw [i.1.f (by decide) (by simp)]
  have ec : ∀ f, f ∈ [11, 12, 13, 14, 15] → adN σ f c = adN σ0 f c := fun f hf => by
    unfold adN
    simp only [List.mem_cons, List.not_mem_nil, or_false] at hf
    rw [i.1.f (by omega) (by simp; omega)]
  have eqq : ∀ f, f ∈ AF6 → adN σ f (C q) = adN σ0 f (C q) := fun f hf => oth.ad (by simp only [List.mem_cons, List.not_mem_nil, or_false] at hf; omega) (by simp only [List.mem_cons, List.not_mem_nil, or_false] at hf; omega)
  have x5 : adN σ 5 c = adN σ0 5 c ∨ ¬ ((T0 (adN σ 5 c)).1 ≠ 0 ∧ (T0 (adN σ 5 c)).1 < 80) := i.2.2.1.imp (fun e => by unfold adN; rw [e]) id
  have cq : ∀ f, f ∈ AF6 → ∀ g, g ∈ AF6 → adN σ f c ≠ adN σ g (C q) := fun f hf g hg e => by
    have main : adN σ f c = adN σ0 f c → False := fun z => by
      rw [z, eqq g hg] at e
      exact qr (j2 r q f g r0 r1 q0 q1 hf hg (by rw [rc]; exact e)).1.symm
    by_cases f5 : f = 5
    · subst f5
      rcases x5 with z | z
      · exact main z
      · rw [e, eqq g hg] at z; have := (adq g hg).2; omega
    · exact main (ec f (by simp only [List.mem_cons, List.not_mem_nil, or_false] at hf ⊢; omega))
  have cc : ∀ f, f ∈ AF6 → ∀ g, g ∈ AF6 → f ≠ g → adN σ f c ≠ adN σ g c := fun f hf g hg ne e => by
    have mn : adN σ f c = adN σ0 f c → adN σ g c = adN σ0 g c → False := fun z1 z2 => by
      rw [z1, z2] at e
      exact ne (j2 r r f g r0 r1 r0 r1 hf hg (by rw [rc]; exact e)).2
    have al : ∀ f, f ∈ AF6 → f ≠ 5 → adN σ f c = adN σ0 f c := fun f hf n5 => ec f (by simp only [List.mem_cons, List.not_mem_nil, or_false] at hf ⊢; omega)
    by_cases f5 : f = 5
    · subst f5
      rcases x5 with z | z
      · exact mn z (al g hg (fun q => ne q.symm))
      · rw [e, al g hg (fun q => ne q.symm)] at z; have := (adc g hg).2; omega
    · by_cases g5 : g = 5
      · subst g5
        rcases x5 with z | z
        · exact mn (al f hf f5) z
        · rw [← e, al f hf f5] at z; have := (adc f hf).2; omega
      · exact mn (al f hf f5) (al g hg g5)
  have qq : ∀ f, f ∈ AF6 → ∀ g, g ∈ AF6 → f ≠ g → adN σ f (C q) ≠ adN σ g (C q) := fun f hf g hg ne e => by
    rw [eqq f hf, eqq g hg] at e
    exact ne (j2 q q f g q0 q1 q0 q1 hf hg e).2
  have cx : ∀ f, f ∈ AF6 → adN σ f c ≠ adN σ 24 a := fun f hf e => by
    rw [eq24] at e
    by_cases f5 : f = 5
    · subst f5
      rcases x5 with z | z
      · rw [z] at e; exact j3 r 5 r0 r1 hf (by rw [rc]; exact e)
      · rw [e] at z; have := axq.2.1; omega
    · rw [ec f (by simp only [List.mem_cons, List.not_mem_nil, or_false] at hf ⊢; omega)] at e
      exact j3 r f r0 r1 hf (by rw [rc]; exact e)
  have qx : ∀ f, f ∈ AF6 → adN σ f (C q) ≠ adN σ 24 a := fun f hf e => by
    rw [eq24, eqq f hf] at e
    exact j3 q f q0 q1 hf e
  have m6 : ∀ i : Nat, i < AF6.length → ∀ j : Nat, j < AF6.length → AF6[i]? = AF6[j]? → i = j := by decide
  have d1 : DS (AF6.map (fun f => adN σ f c)) := DS.mapf m6 cc
  have d2 : DS (AF6.map (fun f => adN σ f (C q))) := DS.mapf m6 qq
  have d3 := (d1.app d2 (fun x hx y hy => by
    obtain ⟨f, hf, rfl⟩ := List.mem_map.mp hx
    obtain ⟨g, hg, rfl⟩ := List.mem_map.mp hy
    exact cq f hf g hg)).app (DS.one (x := adN σ 24 a)) (fun x hx y hy => by
    rw [List.mem_singleton.mp hy]
    rcases List.mem_append.mp hx with hx | hx
    · obtain ⟨f, hf, rfl⟩ := List.mem_map.mp hx
      exact cx f hf
    · obtain ⟨f, hf, rfl⟩ := List.mem_map.mp hx
      exact qx f hf)
  exact d3
theorem MLI.start (h : MLG T0 σ0 a c C R r NM PM) (hH : cdH σ0 c NM R) : MLI T0 σ0 σ0 a c C R r NM PM 0 0 := ⟨CHN.rfl, hH, Or.inl rfl, 0, 0, ⟨rfl, rfl, rfl⟩, ⟨Int.le_refl 0, hH.1.1⟩, fun i x y => by omega⟩
theorem MLI.fr (i : MLI T0 σ0 σ a c C R r NM PM k w) (hc : CHN T0 ((26, a) :: KSM a c) (RSM σ0 a c) (LSM σ0 a) σ σ1) (cs : CSM σ σ1 c) : MLI T0 σ0 σ1 a c C R r NM PM k w := by
  obtain ⟨i1, i2, i3, t, kR, i4, i5, i6⟩ := i
  refine ⟨i1.trans hc, cs.h i2, ?_, t, kR, by rw [cs.s]; exact i4, by rw [cs.1 6 (by decide) (by decide)]; exact i5, fun j x y => by rw [cs.w]; exact i6 j x y⟩
  rw [cs.1 5 (by decide) (by decide), cs.ad (f := 5) (by decide) (by decide)]
  exact i3
theorem MLI.no (i : MLI T0 σ0 σ a c C R r NM PM k w) (hk : 0 ≤ k ∧ k < σ.2.1 6 c) (n : ¬ MLD r (fun q => cdS σ0 (C q)) PM NM (cdS σ c) k) : MLI T0 σ0 σ a c C R r NM PM (k + 1) w := by
  obtain ⟨i1, i2, i3, t, kR, i4, i5, i6⟩ := i
  by_cases e : k = kR
  · subst e
    refine ⟨i1, i2, i3, t + 1, k + 1, ⟨cdS σ c, k, w, 0, i4, hk.2, Or.inr ⟨n, rfl, rfl, rfl⟩, by omega⟩, ⟨Int.le_refl _, by omega⟩, fun j x y => by omega⟩
  · exact ⟨i1, i2, i3, t, kR, i4, ⟨by omega, i5.2⟩, fun j x y => i6 j (by omega) y⟩
theorem MLI.tr (i : MLI T0 σ0 σ a c C R r NM PM k w) (g : GT T0 T) (h : CHN T (KSM a c) (RSM σ a c) (LSM σ a) σ σ2) : CHN T0 ((26, a) :: KSM a c) (RSM σ0 a c) (LSM σ0 a) σ0 σ2 := by
  refine i.1.trans ⟨fun j b x y => h.1 j b x (fun p q => y p (List.mem_cons_of_mem _ q)), fun x hx hT => h.2.1 x (fun q => hx ?_) (by rw [g x hT.1 hT.2]; exact hT), fun x hx => h.2.2 x (fun q => hx ?_)⟩
  · have ec : ∀ f, f ∈ [11, 12, 13, 14, 15] → adN σ f c = adN σ0 f c := fun f hf => by
      unfold adN
      simp only [List.mem_cons, List.not_mem_nil, or_false] at hf
      rw [i.1.f (by omega) (by simp; omega)]
    have e24 : adN σ 24 a = adN σ0 24 a := by unfold adN; rw [i.1.f (by decide) (by simp)]
    simp only [List.mem_cons, List.not_mem_nil, or_false] at q ⊢
    rcases q with q | q | q | q | q | q | q
    · rcases i.2.2.1 with z | z
      · exact Or.inl (by rw [q]; unfold adN; rw [z])
      · rw [← q] at z; exact absurd hT z
    · exact Or.inr (Or.inl (by rw [q]; exact ec 11 (by decide)))
    · exact Or.inr (Or.inr (Or.inl (by rw [q]; exact ec 12 (by decide))))
    · exact Or.inr (Or.inr (Or.inr (Or.inl (by rw [q]; exact ec 13 (by decide)))))
    · exact Or.inr (Or.inr (Or.inr (Or.inr (Or.inl (by rw [q]; exact ec 14 (by decide))))))
    · exact Or.inr (Or.inr (Or.inr (Or.inr (Or.inr (Or.inl (by rw [q]; exact ec 15 (by decide)))))))
    · exact Or.inr (Or.inr (Or.inr (Or.inr (Or.inr (Or.inr (by rw [q]; exact e24))))))
  · have e23 : adN σ 23 a = adN σ0 23 a := by unfold adN; rw [i.1.f (by decide) (by simp)]
    have e18 : adN σ 18 (adN σ 23 a) = adN σ0 18 (adN σ0 23 a) := by rw [e23]; unfold adN; rw [i.1.f (by decide) (by simp)]
    have e19 : adN σ 19 (adN σ 23 a) = adN σ0 19 (adN σ0 23 a) := by rw [e23]; unfold adN; rw [i.1.f (by decide) (by simp)]
    simp only [List.mem_cons, List.not_mem_nil, or_false] at q ⊢
    rw [← e18, ← e19]; exact q
theorem MLI.l2 (h : MLG T0 σ0 a c C R r NM PM) (i : MLI T0 σ0 σ a c C R r NM PM k w) : adN σ 18 (adN σ 23 a) ≠ adN σ 19 (adN σ 23 a) := by
  have e23 : adN σ 23 a = adN σ0 23 a := by unfold adN; rw [i.1.f (by decide) (by simp)]
  have e18 : adN σ 18 (adN σ 23 a) = adN σ0 18 (adN σ0 23 a) := by rw [e23]; unfold adN; rw [i.1.f (by decide) (by simp)]
  have e19 : adN σ 19 (adN σ 23 a) = adN σ0 19 (adN σ0 23 a) := by rw [e23]; unfold adN; rw [i.1.f (by decide) (by simp)]
  rw [e18, e19]; exact h.2.2.2.1
theorem MLI.melt (h : MLG T0 σ0 a c C R r NM PM) (hw : WT T0 σ0) (i : MLI T0 σ0 σ a c C R r NM PM k w) (gt : GT T0 T) (hk : 0 ≤ k ∧ k < σ.2.1 6 c) (hc : cdW σ c k 0 = 10) (hq : cdW σ c k 2 = q) (q0 : 0 ≤ q) (q1 : q < R) (qr : q ≠ r) (ch : CHN T (KSM a c) (RSM σ a c) (LSM σ a) σ σ2) (m : MAO T σ σ2 c (C q) NM R k v) : MLI T0 σ0 σ2 a c C R r NM PM (k + 1) (w + v) := by
  have tr := i.tr gt ch
  have oth := i.oth h hw q0 q1 qr
  have i0 := i
  obtain ⟨i1, i2, i3, t, kR, i4, i5, i6⟩ := i
  have ek : k = kR := by
    by_cases z : k = kR
    · exact z
    · exact absurd hc (i6 k (Int.le_refl k) (by omega))
  have pm := h.2.2.2.2.2 q q0 q1
  have eqV : (cdS σ c).V k 2 = q := by show vW (cdW σ c) k 2 = q; rw [vW_ne (by decide) (by decide)]; exact hq
  have e0V : (cdS σ c).V k 0 = 10 := by show vW (cdW σ c) k 0 = 10; rw [vW_0]; exact hc
  have eP : σ.2.1 8 (C q) = PM q := by rw [oth.1 8 (by decide) (by decide)]; exact pm.1.symm
  have eN : σ.2.1 7 (C q) = NM q := by rw [oth.1 7 (by decide) (by decide)]; exact pm.2.symm
  unfold MAO at m
  rw [oth.s, eP, eN] at m
  rcases m with ⟨v0, nm, cs⟩ | ⟨v1, mm, ⟨base, lb, lq, j0, m1, m2, m3, m4, m5, m6, m7⟩, m8, m9⟩
  · have nd : ¬ MLD r (fun q => cdS σ0 (C q)) PM NM (cdS σ c) k := fun z => nm (by have y := z.2.2; rw [eqV] at y; exact y)
    have z := i0.no hk nd
    obtain ⟨-, z2, z3, t', k', z4, z5, z6⟩ := z
    rw [v0, show w + 0 = w by omega]
    refine ⟨tr, cs.h z2, ?_, t', k', by rw [cs.s]; exact z4, by rw [cs.1 6 (by decide) (by decide)]; exact z5, fun j x y => by rw [cs.w]; exact z6 j x y⟩
    rw [cs.1 5 (by decide) (by decide), cs.ad (f := 5) (by decide) (by decide)]
    exact z3
  · rw [v1]
    subst ek
    have nn : σ2.2.1 6 c = σ.2.1 6 c + (mkS (cdS σ c) (cdS σ0 (C q)) k base lb lq (PM q) (NM q)).1 - 1 := congrArg RTS.n m5
    refine ⟨tr, m8, ?_, t + 1, k + (mkS (cdS σ c) (cdS σ0 (C q)) k base lb lq (PM q) (NM q)).1, ⟨cdS σ c, k, w, 1, i4, hk.2, Or.inl ⟨base, lb, lq, j0, ⟨e0V, by rw [eqV]; exact qr, by rw [eqV]; exact mm⟩, m1, m2, by rw [eqV]; exact m3, m4, by rw [eqV]; exact m5, by rw [eqV], rfl⟩, rfl⟩, ⟨by omega, by omega⟩, fun j x y => ?_⟩
    · rcases m9 with z | z
      · rcases i3 with y | y
        · exact Or.inl (z.trans y)
        · exact Or.inr (by unfold adN; rw [z]; exact y)
      · exact Or.inr (al_gt gt z)
    · have z := m7 j (by omega) y
      intro e
      apply z
      show vW (cdW σ2 c) j 0 = 10
      rw [vW_0]; exact e
end MLIS
end
section
section MLE
variable {T0 T : CT} {σ0 σ : MS} {a b c n : Nat} {C : Int → Nat} {R r k w v : Int} {NM PM : Int → Int}
theorem cd_w {x : Nat} (h : σ.2.1 5 b = (x : Int)) : cdW σ b = cW σ x (σ.2.1 6 b) := by unfold cdW; rw [adN_of h]
theorem cd_w2 {x : Nat} {m : Int} (h : σ.2.1 5 b = (x : Int)) (h6 : σ.2.1 6 b = m) : cdW σ b = cW σ x m := by rw [cd_w h, h6]
theorem csm_fld (hn : 16 < n) (hn2 : n < 1000) : CSM σ (sA n a v σ) b := ⟨fun f f0 f1 => by rw [sA_k (by omega)], fun f hf => by rw [sA_k (by omega)]⟩
theorem ad_fld {f : Nat} (hf : f ≠ n) : adN (sA n a v σ) f b = adN σ f b := by unfold adN; rw [sA_k hf]
theorem MLI.p26 (i : MLI T0 σ0 σ a c C R r NM PM k w) : MLI T0 σ0 (sA 26 a v σ) a c C R r NM PM k w := i.fr (CHN.fld CHN.rfl (by simp) (by decide)) (csm_fld (by decide) (by decide))
theorem MLG.p25 (h : MLG T0 σ a c C R r NM PM) : MLG T0 (sA 25 a v σ) a c C R r NM PM := by
  obtain ⟨h1, h2, ⟨j1, j2, j3⟩, h4, h5, h6⟩ := h
  have af : ∀ f, f ∈ AF6 → f ≠ 25 := fun f hf => by simp only [List.mem_cons, List.not_mem_nil, or_false] at hf; omega
  have e23 : adN (sA 25 a v σ) 23 a = adN σ 23 a := ad_fld (by decide)
  refine ⟨h1, h2, ⟨j1, fun p q f g p0 p1 q0 q1 hf hg e => ?_, fun p f p0 p1 hf e => ?_⟩, ?_, fun q q0 q1 qr => (csm_fld (by decide) (by decide)).g (h5 q q0 q1 qr), fun q q0 q1 => by rw [sA_k (by decide), sA_k (by decide)]; exact h6 q q0 q1⟩
  · rw [ad_fld (af f hf), ad_fld (af g hg)] at e
    exact j2 p q f g p0 p1 q0 q1 hf hg e
  · rw [ad_fld (af f hf), ad_fld (by decide)] at e
    exact j3 p f p0 p1 hf e
  · rw [e23, ad_fld (by decide), ad_fld (by decide)]; exact h4
def MLE (T : CT) (σ σ2 : MS) (a c : Nat) (C : Int → Nat) (R r : Int) (NM PM : Int → Int) (v : Int) : Prop := CHN T ((25, a) :: (26, a) :: KSM a c) (RSM σ a c) (LSM σ a) σ σ2 ∧ cdH σ2 c NM R ∧ (σ2.2.1 5 c = σ.2.1 5 c ∨ ¬ ((T (adN σ2 5 c)).1 ≠ 0 ∧ (T (adN σ2 5 c)).1 < 80)) ∧ ∃ t, MLR r (fun q => cdS σ (C q)) PM NM t (cdS σ c) 0 (cdS σ2 c) (cdS σ2 c).n v
theorem MLI.fin {x : Int} (i : MLI T0 (sA 25 a x σ0) σ a c C R r NM PM k v) (hk : σ.2.1 6 c ≤ k) : MLE T0 σ0 σ a c C R r NM PM v := by
  obtain ⟨i1, i2, i3, t, kR, i4, i5, i6⟩ := i
  have cs : ∀ b, cdS (sA 25 a x σ0) b = cdS σ0 b := fun b => (csm_fld (σ := σ0) (n := 25) (by decide) (by decide)).s
  have er : RSM (sA 25 a x σ0) a c = RSM σ0 a c := by
    unfold RSM
    rw [ad_fld (by decide), ad_fld (by decide), ad_fld (by decide), ad_fld (by decide), ad_fld (by decide), ad_fld (by decide), ad_fld (by decide)]
  have el : LSM (sA 25 a x σ0) a = LSM σ0 a := by
    unfold LSM
    rw [ad_fld (f := 23) (by decide), ad_fld (by decide), ad_fld (by decide)]
  rw [er, el] at i1
  have ek : kR = (cdS σ c).n := by show kR = σ.2.1 6 c; omega
  have eG : (fun q => cdS (sA 25 a x σ0) (C q)) = fun q => cdS σ0 (C q) := funext (fun q => cs (C q))
  rw [cs, eG, ek] at i4
  refine ⟨(CHN.fld (CHN.rfl (rs := RSM σ0 a c) (ls := LSM σ0 a)) (by simp) (by decide)).trans (i1.sub (fun p q => List.mem_cons_of_mem _ q) (fun _ q => q) (fun _ q => q)), i2, ?_, t, i4⟩
  rw [sA_k (by decide)] at i3
  exact i3
end MLE
end
section
set_option maxHeartbeats 1000000 in
set_option maxRecDepth 20000 in
theorem l_X4_melt_x_12 (d : Nat) {T0 : CT} {σ0 : MS} {a : Nat} {rx1 : Nat} {c2 : Int} {c3 : Int} {cc : Nat} {C : Int → Nat} {NM : Int → Int} {PM : Int → Int} {post : Option Value → CT → MS → Prop} (r_c2 : 0 ≤ c2 ∧ c2 ≤ 6) (r_c3 : 0 ≤ c3 ∧ c3 ≤ 5) (hw0 : WT T0 σ0) (hcc : σ0.2.1 25 a = (cc : Int)) (hM : MLG T0 σ0 a cc C c2 c3 NM PM) (hCs : ∀ q, 0 ≤ q → q < c2 → σ0.2.1 (1000 + rx1) q = (C q : Int)) (h5 : (T0 rx1).1 = 5 ∧ c2 ≤ ((T0 rx1).2 : Int)) (hrs : (rx1 ≠ adN σ0 5 cc ∧ rx1 ≠ adN σ0 11 cc ∧ rx1 ≠ adN σ0 12 cc ∧ rx1 ≠ adN σ0 13 cc ∧ rx1 ≠ adN σ0 14 cc ∧ rx1 ≠ adN σ0 15 cc ∧ rx1 ≠ adN σ0 24 a)) (hx_119 : ∀ (T : CT) (i5 : Int) (i6 : Int) (σ : MS) , (GT T0 T) → (WT T σ) → (FrC T0 [5, 6, 10, 26, 27, 28, 29, 30, 31, 32] σ0 σ) → (OB T a 4) → ((T rx1).1 = 4 ∨ (T rx1).1 = 5) → ((T rx1).2 ≤ 1000000) → ((T rx1).1 = 5) → (0 ≤ i5 ∧ i5 ≤ 200) → (0 ≤ i6 ∧ i6 ≤ 200) → (MLI T0 σ0 σ a cc C c2 c3 NM PM i6 i5) → (i6 ≤ 200 ∧ 0 ≤ i5 ∧ i5 ≤ i6) → (σ.2.1 6 cc ≤ i6) → Tn (d + 6) m_X4_melt 119 T σ [(0, .ref a), (1, .ref rx1), (2, .int (iI c2)), (3, .int (iI c3)), (5, .int (iI i5)), (6, .int (iI i6))] [] post) : ∀ (n : Nat) (T : CT) (i5 : Int) (i6 : Int) (σ : MS) , (GT T0 T) → (WT T σ) → (FrC T0 [5, 6, 10, 26, 27, 28, 29, 30, 31, 32] σ0 σ) → (OB T a 4) → ((T rx1).1 = 4 ∨ (T rx1).1 = 5) → ((T rx1).2 ≤ 1000000) → ((T rx1).1 = 5) → (0 ≤ i5 ∧ i5 ≤ 200) → (0 ≤ i6 ∧ i6 ≤ 200) → (MLI T0 σ0 σ a cc C c2 c3 NM PM i6 i5) → (i6 ≤ 200 ∧ 0 ≤ i5 ∧ i5 ≤ i6) → (2147483700 - i6).toNat = n → Tn (d + 6) m_X4_melt 12 T σ [(0, .ref a), (1, .ref rx1), (2, .int (iI c2)), (3, .int (iI c3)), (5, .int (iI i5)), (6, .int (iI i6))] [] post := by
  intro n
  induction n using Nat.strongRecOn with
  | _ n ih =>
    intro T i5 i6 σ hG hw hF h_a h_rx1 l_rx1 t_rx1 r_i5 r_i6 hI h6 hm
    have hH9 : 0 ≤ σ.2.1 6 cc ∧ σ.2.1 6 cc ≤ 200 := hI.2.1.1
    have hR9 := hM.1.1
    have hgl := hG rx1 (by omega) (by omega)
    have hgl2 : (T rx1).2 = (T0 rx1).2 := by rw [hgl]
    refine tn_iload dX4_melt_12 5 rfl ?_
    refine tn_aload_n dX4_melt_14 rfl 0 rfl ?_
    have h256 : σ.2.1 25 a = (cc : Int) := by rw [hI.1.f (by decide) (by simp)]; exact hcc
    have hk5 : (T cc).1 = 50 := ob_of ((wf_25 hw h_a).resolve_left (by omega)) h256
    have hk5o : OB T cc 1 := ⟨by omega, by rw [hk5]; rfl, by omega⟩
    refine tn_getR (ci := 4) (i := 2) (n := 25) (x := cc) dX4_melt_15 rfl lay_4 (by decide) fl4_19 h_a rfl rfl (h256) ?_
    refine tn_getI (ci := 1) (i := 1) (n := 6) (t := σ.2.1 6 cc) dX4_melt_18 rfl lay_1 (by decide) fl4_23 hk5o rfl rfl (rfl) ?_
    have g7 : ((0 : Int) ≤ σ.2.1 6 cc ∧ σ.2.1 6 cc ≤ 5000) ∧ ((T cc).1 = 50 → σ.2.1 6 cc ≤ 200) := wf_6 hw hk5o
    have g7x := g7.2
    replace g7 := g7.1
    have g7x := g7x hk5
    refine tn_icmp_ge (tgt := 119) dX4_melt_21 (by decide) ⟨by omega, by omega⟩ ⟨by omega, by omega⟩ (fun h8 => ?_) (fun h8 => ?_)
    · exact tn_sub [0, 1, 2, 3, 4, 5] rfl (hx_119 T (i5) (i6) σ hG hw (FrC.rfl.trans (FrC.sub hF (by decide))) h_a h_rx1 (by omega) t_rx1 (by omega) (by omega) hI (by omega) (by omega))
    · refine tn_aload_n dX4_melt_24 rfl 0 rfl ?_
      refine tn_getR (ci := 4) (i := 2) (n := 25) (x := cc) dX4_melt_25 rfl lay_4 (by decide) fl4_19 h_a rfl rfl (h256) ?_
      refine tn_iload dX4_melt_28 5 rfl ?_
      refine tn_iconst dX4_melt_30 ?_
      obtain ⟨x9, hx10, hl12, hk11a, hk11b⟩ := wf_5 hw hk5o
      have hk11 : (T x9).1 = 1 := hk11a (by omega)
      clear hk11a hk11b
      have hk11i : IA T x9 := by unfold IA; omega
      refine tn_callV (M := m_X4_melt) (pc := 31) (ix := 29) (ci := 1) (M' := m_X1_get) (As := [.int (iI i6), .int (iI 0)]) (rest := []) dX4_melt_31 ok_X1_get im_X1_get se_X1_get ml4_29 np_X1_get rfl rfl hk5o rfl (Nat.le_of_ble_eq_true rfl) (Nat.le_of_ble_eq_true rfl) rfl (k_X1_get_x (d + 4) (T := T) (σ := σ) (a := cc) (k := i6) (c := 0) (x := x9) (n := σ.2.1 6 cc) (W := cW σ x9 (σ.2.1 6 cc)) hk5o (by omega) (by decide) hw (hx10) (rfl) rfl (by omega) (by decide)) (fun r13 T15 σ14 gt16 hp => ?_)
      obtain ⟨v19, rfl, rfl, rfl, f17, f18⟩ := hp
      clear gt16
      show Tn _ _ 34 T σ [(0, .ref a), (1, .ref rx1), (2, .int (iI c2)), (3, .int (iI c3)), (5, .int (iI i5)), (6, .int (iI i6))] [.int (iI v19)] _
      have hk9 : v19 = cdW σ cc i6 0 := by rw [cd_w hx10]; exact f18
      refine tn_bipush dX4_melt_34 (by decide) ?_
      refine tn_icmp_ne (tgt := 52) dX4_melt_36 (by decide) ⟨by omega, by omega⟩ ⟨by decide, by decide⟩ (fun h20 => ?_) (fun h20 => ?_)
      · refine tn_iconst dX4_melt_52 ?_
        refine tn_istore (L' := [(7, .int (iI (-1))), (0, .ref a), (1, .ref rx1), (2, .int (iI c2)), (3, .int (iI c3)), (5, .int (iI i5)), (6, .int (iI i6))]) dX4_melt_53 (by decide) rfl ?_
        refine tn_iload dX4_melt_55 0 rfl ?_
        refine tn_if_lt (tgt := 113) dX4_melt_57 (by decide) ⟨by decide, by decide⟩ (fun _ => ?_) (fun h => absurd h (by decide))
        refine tn_iinc (q0 := 6) (L' := [(6, .int (iI (i6 + 1))), (7, .int (iI (-1))), (0, .ref a), (1, .ref rx1), (2, .int (iI c2)), (3, .int (iI c3)), (5, .int (iI i5))]) dX4_melt_113 rfl (by decide) rfl ?_
        refine tn_goto (tgt := 12) dX4_melt_116 (by decide) ?_
        exact tn_sub [2, 3, 4, 5, 6, 0] rfl (ih _ (by omega) T (i5) (i6 + 1) σ hG hw (FrC.rfl.trans (FrC.sub hF (by decide))) h_a h_rx1 (by omega) t_rx1 (by omega) (by omega) (hI.no ⟨by omega, by omega⟩ (fun z => by have y : vW (cdW σ cc) i6 0 = 10 := z.1; rw [vW_0] at y; omega)) (by omega) rfl)
      · refine tn_aload_n dX4_melt_39 rfl 0 rfl ?_
        refine tn_getR (ci := 4) (i := 2) (n := 25) (x := cc) dX4_melt_40 rfl lay_4 (by decide) fl4_19 h_a rfl rfl (h256) ?_
        refine tn_iload dX4_melt_43 5 rfl ?_
        refine tn_iconst dX4_melt_45 ?_
        refine tn_callV (M := m_X4_melt) (pc := 46) (ix := 29) (ci := 1) (M' := m_X1_get) (As := [.int (iI i6), .int (iI 2)]) (rest := []) dX4_melt_46 ok_X1_get im_X1_get se_X1_get ml4_29 np_X1_get rfl rfl hk5o rfl (Nat.le_of_ble_eq_true rfl) (Nat.le_of_ble_eq_true rfl) rfl (k_X1_get_x (d + 4) (T := T) (σ := σ) (a := cc) (k := i6) (c := 2) (x := x9) (n := σ.2.1 6 cc) (W := cW σ x9 (σ.2.1 6 cc)) hk5o (by omega) (by decide) hw (hx10) (rfl) rfl (by omega) (by decide)) (fun r22 T24 σ23 gt25 hp => ?_)
        obtain ⟨v28, rfl, rfl, rfl, f26, f27⟩ := hp
        clear gt25
        show Tn _ _ 49 T σ [(0, .ref a), (1, .ref rx1), (2, .int (iI c2)), (3, .int (iI c3)), (5, .int (iI i5)), (6, .int (iI i6))] [.int (iI v28)] _
        have hy9 : v28 = cdW σ cc i6 2 := by rw [cd_w hx10]; exact f27
        have cl9 := hI.2.1.2.2.2.2.2.2.1 i6 (by omega) (by omega) (by rw [vW_0]; omega)
        rw [vW_ne (by decide) (by decide)] at cl9
        refine tn_goto (tgt := 53) dX4_melt_49 (by decide) ?_
        refine tn_istore (L' := [(7, .int (iI v28)), (0, .ref a), (1, .ref rx1), (2, .int (iI c2)), (3, .int (iI c3)), (5, .int (iI i5)), (6, .int (iI i6))]) dX4_melt_53 (by decide) rfl ?_
        refine tn_iload dX4_melt_55 0 rfl ?_
        refine tn_if_lt (tgt := 113) dX4_melt_57 (by decide) ⟨by omega, by omega⟩ (fun h29 => ?_) (fun h29 => ?_)
        · refine tn_iinc (q0 := 6) (L' := [(6, .int (iI (i6 + 1))), (7, .int (iI v28)), (0, .ref a), (1, .ref rx1), (2, .int (iI c2)), (3, .int (iI c3)), (5, .int (iI i5))]) dX4_melt_113 rfl (by decide) rfl ?_
          refine tn_goto (tgt := 12) dX4_melt_116 (by decide) ?_
          exact tn_sub [2, 3, 4, 5, 6, 0] rfl (ih _ (by omega) T (i5) (i6 + 1) σ hG hw (FrC.rfl.trans (FrC.sub hF (by decide))) h_a h_rx1 (by omega) t_rx1 (by omega) (by omega) (hI.no ⟨by omega, by omega⟩ (fun z => by have y := z.2.1; have y2 : (cdS σ cc).V i6 2 = v28 := (by (show vW (cdW σ cc) i6 2 = _); rw [vW_ne (by decide) (by decide)]; omega); rw [y2] at y; omega)) (by omega) rfl)
        · refine tn_iload dX4_melt_60 0 rfl ?_
          refine tn_iload_n dX4_melt_62 rfl 3 rfl ?_
          refine tn_icmp_ge (tgt := 113) dX4_melt_63 (by decide) ⟨by omega, by omega⟩ ⟨by omega, by omega⟩ (fun h30 => ?_) (fun h30 => ?_)
          · refine tn_iinc (q0 := 6) (L' := [(6, .int (iI (i6 + 1))), (7, .int (iI v28)), (0, .ref a), (1, .ref rx1), (2, .int (iI c2)), (3, .int (iI c3)), (5, .int (iI i5))]) dX4_melt_113 rfl (by decide) rfl ?_
            refine tn_goto (tgt := 12) dX4_melt_116 (by decide) ?_
            exact tn_sub [2, 3, 4, 5, 6, 0] rfl (ih _ (by omega) T (i5) (i6 + 1) σ hG hw (FrC.rfl.trans (FrC.sub hF (by decide))) h_a h_rx1 (by omega) t_rx1 (by omega) (by omega) (hI.no ⟨by omega, by omega⟩ (fun z => by have y := z.2.1; have y2 : (cdS σ cc).V i6 2 = v28 := (by (show vW (cdW σ cc) i6 2 = _); rw [vW_ne (by decide) (by decide)]; omega); rw [y2] at y; omega)) (by omega) rfl)
          · refine tn_iload dX4_melt_66 0 rfl ?_
            refine tn_aload_n dX4_melt_68 rfl 2 rfl ?_
            refine tn_alenX dX4_melt_69 (by have q9 := h_rx1; omega) ?_
            refine tn_icmp_ge (tgt := 113) dX4_melt_70 (by decide) ⟨by omega, by omega⟩ ⟨by omega, by omega⟩ (fun h31 => ?_) (fun h31 => ?_)
            · refine tn_iinc (q0 := 6) (L' := [(6, .int (iI (i6 + 1))), (7, .int (iI v28)), (0, .ref a), (1, .ref rx1), (2, .int (iI c2)), (3, .int (iI c3)), (5, .int (iI i5))]) dX4_melt_113 rfl (by decide) rfl ?_
              refine tn_goto (tgt := 12) dX4_melt_116 (by decide) ?_
              exact tn_sub [2, 3, 4, 5, 6, 0] rfl (ih _ (by omega) T (i5) (i6 + 1) σ hG hw (FrC.rfl.trans (FrC.sub hF (by decide))) h_a h_rx1 (by omega) t_rx1 (by omega) (by omega) (hI.no ⟨by omega, by omega⟩ (fun z => by have y := z.2.1; have y2 : (cdS σ cc).V i6 2 = v28 := (by (show vW (cdW σ cc) i6 2 = _); rw [vW_ne (by decide) (by decide)]; omega); rw [y2] at y; omega)) (by omega) rfl)
            · refine tn_iload dX4_melt_73 0 rfl ?_
              refine tn_iload_n dX4_melt_75 rfl 4 rfl ?_
              refine tn_icmp_eq (tgt := 113) dX4_melt_76 (by decide) ⟨by omega, by omega⟩ ⟨by omega, by omega⟩ (fun h32 => ?_) (fun h32 => ?_)
              · refine tn_iinc (q0 := 6) (L' := [(6, .int (iI (i6 + 1))), (7, .int (iI v28)), (0, .ref a), (1, .ref rx1), (2, .int (iI c2)), (3, .int (iI c3)), (5, .int (iI i5))]) dX4_melt_113 rfl (by decide) rfl ?_
                refine tn_goto (tgt := 12) dX4_melt_116 (by decide) ?_
                exact tn_sub [2, 3, 4, 5, 6, 0] rfl (ih _ (by omega) T (i5) (i6 + 1) σ hG hw (FrC.rfl.trans (FrC.sub hF (by decide))) h_a h_rx1 (by omega) t_rx1 (by omega) (by omega) (hI.no ⟨by omega, by omega⟩ (fun z => by have y := z.2.1; have y2 : (cdS σ cc).V i6 2 = v28 := (by (show vW (cdW σ cc) i6 2 = _); rw [vW_ne (by decide) (by decide)]; omega); rw [y2] at y; omega)) (by omega) rfl)
              · refine tn_aload_n dX4_melt_79 rfl 2 rfl ?_
                refine tn_iload dX4_melt_80 0 rfl ?_
                obtain ⟨x33, hx34, hk35⟩ := (hw).2.2.2.1.2 rx1 t_rx1 (v28) (by omega) (by omega)
                refine tn_aald (z := v28) (x := x33) dX4_melt_82 h_rx1 (by omega) (by omega) (by omega) hx34 ?_
                have hk35o : OB T x33 1 := ⟨by omega, by rw [hk35]; rfl, by omega⟩
                refine tn_ifnull dX4_melt_83 ?_
                refine tn_aload_n dX4_melt_86 rfl 1 rfl ?_
                refine tn_aload_n dX4_melt_87 rfl 2 rfl ?_
                refine tn_iload dX4_melt_88 0 rfl ?_
                obtain ⟨x36, hx37, hk38⟩ := (hw).2.2.2.1.2 rx1 t_rx1 (v28) (by omega) (by omega)
                refine tn_aald (z := v28) (x := x36) dX4_melt_90 h_rx1 (by omega) (by omega) (by omega) hx37 ?_
                have hk38o : OB T x36 1 := ⟨by omega, by rw [hk38]; rfl, by omega⟩
                have er9 : σ.2.1 (1000 + rx1) = σ0.2.1 (1000 + rx1) := hI.1.r ⟨by omega, by omega⟩ (by simp only [List.mem_cons, List.not_mem_nil, or_false, not_or]; exact hrs)
                have eC9 : x36 = C (v28) := by have z := hx37; rw [er9, hCs _ (by omega) (by omega)] at z; omega
                have o9 := hI.oth hM hw0 (q := v28) (by omega) (by omega) (by omega)
                have gw9 := o9.g (hM.2.2.2.2.1 (v28) (by omega) (by omega) (by omega))
                rw [← eC9] at o9 gw9
                have i19 : MLI T0 σ0 (sA 26 a (x36 : Int) σ) a cc C c2 c3 NM PM i6 i5 := hI.p26
                have gw8 : cdG (sA 26 a (x36 : Int) σ) x36 NM c2 := (csm_fld (by decide) (by decide)).g gw9
                have cw9 : cdW (sA 26 a (x36 : Int) σ) cc = cdW σ cc := (csm_fld (by decide) (by decide)).w
                refine tn_putV (ci := 4) (i := 3) (n := 26) (r := true) (v := (x36 : Int)) tyX4 tyX4_ok nmX4 dX4_melt_91 rfl lay_4 (by decide) fl4_33 rfl (tyX4_ok 3 (by decide)) (vl_ref rfl).symm rfl rfl h_a rfl rfl ?_
                refine tn_aload_n dX4_melt_94 rfl 1 rfl ?_
                obtain ⟨x39, hx40, hl42, hk41a, hk41b⟩ := wf_5 hw hk38o
                have hk41 : (T x39).1 = 1 := hk41a (by omega)
                clear hk41a hk41b
                have hk41i : IA T x39 := by unfold IA; omega
                refine tn_callV (M := m_X4_melt) (pc := 95) (ix := 36) (ci := 4) (M' := m_X4_isSmall) (As := []) (rest := []) dX4_melt_95 ok_X4_isSmall im_X4_isSmall se_X4_isSmall ml4_36 np_X4_isSmall rfl rfl h_a rfl (Nat.le_of_ble_eq_true rfl) (Nat.le_of_ble_eq_true rfl) rfl (k_X4_isSmall_x (d + 2) (T := T) (σ := (sA 26 a ((x36 : Int)) σ)) (a := a) (g := x36) (y := x39) (ng := σ.2.1 6 x36) (Wg := cW (sA 26 a ((x36 : Int)) σ) x39 (σ.2.1 6 x36)) h_a (hw.put (by decide) (by decide) (fo_26 (Or.inr ⟨_, rfl, hk38⟩))) (ra_eq) (rc_o (by decide) (hx40)) (rc_o (by decide) (rfl)) rfl (by have z := gw9.1.1; omega) (by rw [← cd_w2 ((rc_o (by decide) (hx40))) (rc_o (by decide) (rfl))]; have z := gw8.1.2.2.1.w; rw [sA_k (by decide)] at z; exact z)) (fun r43 T45 σ44 gt46 hp => ?_)
                obtain ⟨v49, rfl, rfl, rfl, f47, f48⟩ := hp
                clear gt46
                show Tn _ _ 98 T (sA 26 a ((x36 : Int)) σ) [(7, .int (iI v28)), (0, .ref a), (1, .ref rx1), (2, .int (iI c2)), (3, .int (iI c3)), (5, .int (iI i5)), (6, .int (iI i6))] [.int (iI v49)] _
                refine tn_if_eq (tgt := 113) dX4_melt_98 (by decide) ⟨by omega, by omega⟩ (fun h50 => ?_) (fun h50 => ?_)
                · refine tn_iinc (q0 := 6) (L' := [(6, .int (iI (i6 + 1))), (7, .int (iI v28)), (0, .ref a), (1, .ref rx1), (2, .int (iI c2)), (3, .int (iI c3)), (5, .int (iI i5))]) dX4_melt_113 rfl (by decide) rfl ?_
                  refine tn_goto (tgt := 12) dX4_melt_116 (by decide) ?_
                  exact tn_sub [2, 3, 4, 5, 6, 0] rfl (ih _ (by omega) T (i5) (i6 + 1) (sA 26 a ((x36 : Int)) σ) hG (hw.put (by decide) (by decide) (fo_26 (Or.inr ⟨_, rfl, hk38⟩))) ((FrC.rfl.trans (FrC.sub hF (by decide))).put (by decide) (by decide)) h_a h_rx1 (by omega) t_rx1 (by omega) (by omega) (i19.no ⟨by omega, by rw [sA_k (by decide)]; omega⟩ (fun z => by have y := z.2.2; rw [show (cdS (sA 26 a (x36 : Int) σ) cc).V i6 2 = v28 by (show vW (cdW (sA 26 a (x36 : Int) σ) cc) i6 2 = _; rw [cw9, vW_ne (by decide) (by decide)]; omega)] at y; exact (f48.resolve_left (fun q => absurd q.1 (by omega))).2 (by rw [← cd_w2 (rc_o (by decide) (hx40)) (rc_o (by decide) (rfl)), (csm_fld (σ := σ) (b := x36) (n := 26) (a := a) (v := (x36 : Int)) (by decide) (by decide)).w, o9.w, (show σ.2.1 6 x36 = σ0.2.1 6 x36 from o9.1 6 (by decide) (by decide)), eC9]; exact ⟨fun j a b => by have z := y.1 j a b; intro e; apply z; (show vW (cdW σ0 (C (v28))) j 0 = 10); rw [vW_0]; exact e, by rw [cN_ext (Q := fun j => vW (cdW σ0 (C (v28))) j 0 ≤ 10) (fun i _ _ => by (show cdW σ0 (C (v28)) i 0 ≤ 10 ↔ vW (cdW σ0 (C (v28))) i 0 ≤ 10); rw [vW_0])]; exact y.2.1⟩))) (by omega) rfl)
                · refine tn_aload_n dX4_melt_101 rfl 1 rfl ?_
                  refine tn_iload dX4_melt_102 6 rfl ?_
                  refine tn_callV (M := m_X4_melt) (pc := 104) (ix := 40) (ci := 4) (M' := m_X4_meltAt) (As := [.int (iI i6)]) (rest := []) dX4_melt_104 ok_X4_meltAt im_X4_meltAt se_X4_meltAt ml4_40 np_X4_meltAt rfl rfl h_a rfl (Nat.le_of_ble_eq_true rfl) (Nat.le_of_ble_eq_true rfl) rfl (k_X4_meltAt_c (d) (T := T) (σ := (sA 26 a ((x36 : Int)) σ)) (a := a) (k := i6) h_a (by omega) (hw.put (by decide) (by decide) (fo_26 (Or.inr ⟨_, rfl, hk38⟩))) (show (sA 26 a (x36 : Int) σ).2.1 25 a = (cc : Int) by rw [sA_k (by decide)]; exact h256) (show _ = _ from ra_eq) (fun e => (show (v28) ≠ c3 by omega) (hM.2.2.1.1 _ _ (by omega) (by omega) (by omega) (by omega) (by rw [← eC9, e]; exact hM.1.2.1.symm))) (by have z := i19.ds hM hw0 (q := v28) (by omega) (by omega) (by omega); rw [← eC9] at z; exact z) (i19.l2 hM) i19.2.1 gw8 ⟨by omega, by rw [sA_k (by decide)]; omega⟩ (by rw [cw9]; omega) (by rw [cd_w2 (rc_o (by decide) (hx40)) (rc_o (by decide) (rfl)), sA_k (by decide)]; exact ((f48.resolve_right (fun q => absurd q.1 (by omega))).2).1) (by rw [cd_w2 (rc_o (by decide) (hx40)) (rc_o (by decide) (rfl)), sA_k (by decide)]; exact ((f48.resolve_right (fun q => absurd q.1 (by omega))).2).2)) (fun r51 T53 σ52 gt54 hp => ?_)
                  obtain ⟨v58, rfl, w59, F60, f55, f56, f57⟩ := hp
                  rw [← gt54.lenQ h_rx1] at l_rx1
                  replace h_a : OB T53 a 4 := gt54.ob h_a
                  replace t_rx1 : (T53 rx1).1 = 5 := gt54.kk t_rx1 (by decide) (by decide)
                  replace h_rx1 : (T53 rx1).1 = 4 ∨ (T53 rx1).1 = 5 := by rw [gt54 rx1 (by omega) (by omega)]; exact h_rx1
                  show Tn _ _ 107 T53 σ52 [(7, .int (iI v28)), (0, .ref a), (1, .ref rx1), (2, .int (iI c2)), (3, .int (iI c3)), (5, .int (iI i5)), (6, .int (iI i6))] [.int (iI v58)] _
                  refine tn_if_eq (tgt := 113) dX4_melt_107 (by decide) ⟨by omega, by omega⟩ (fun h61 => ?_) (fun h61 => ?_)
                  · refine tn_iinc (q0 := 6) (L' := [(6, .int (iI (i6 + 1))), (7, .int (iI v28)), (0, .ref a), (1, .ref rx1), (2, .int (iI c2)), (3, .int (iI c3)), (5, .int (iI i5))]) dX4_melt_113 rfl (by decide) rfl ?_
                    refine tn_goto (tgt := 12) dX4_melt_116 (by decide) ?_
                    exact tn_sub [2, 3, 4, 5, 6, 0] rfl (ih _ (by omega) T53 (i5) (i6 + 1) σ52 (GT.trans hG gt54) w59 (((FrC.rfl.trans (FrC.sub hF (by decide))).put (by decide) (by decide)).trans (FrC.sub (FrC.old F60 hG) (by decide))) h_a h_rx1 (by omega) t_rx1 (by omega) (by omega) (by have z := i19.melt (σ := (sA 26 a (x36 : Int) σ)) (q := v28) hM hw0 hG ⟨by omega, by rw [sA_k (by decide)]; omega⟩ (by rw [cw9]; omega) (by rw [cw9]; omega) (by omega) (by omega) (by omega) f56 (by rw [← eC9]; exact f57); rw [show i5 + v58 = i5 by omega] at z; exact z) (by omega) rfl)
                  · refine tn_iinc (q0 := 5) (L' := [(5, .int (iI (i5 + 1))), (7, .int (iI v28)), (0, .ref a), (1, .ref rx1), (2, .int (iI c2)), (3, .int (iI c3)), (6, .int (iI i6))]) dX4_melt_110 rfl (by decide) rfl ?_
                    refine tn_iinc (q0 := 6) (L' := [(6, .int (iI (i6 + 1))), (5, .int (iI (i5 + 1))), (7, .int (iI v28)), (0, .ref a), (1, .ref rx1), (2, .int (iI c2)), (3, .int (iI c3))]) dX4_melt_113 rfl (by decide) rfl ?_
                    refine tn_goto (tgt := 12) dX4_melt_116 (by decide) ?_
                    exact tn_sub [3, 4, 5, 6, 1, 0] rfl (ih _ (by omega) T53 (i5 + 1) (i6 + 1) σ52 (GT.trans hG gt54) w59 (((FrC.rfl.trans (FrC.sub hF (by decide))).put (by decide) (by decide)).trans (FrC.sub (FrC.old F60 hG) (by decide))) h_a h_rx1 (by omega) t_rx1 (by omega) (by omega) (by have z := i19.melt (σ := (sA 26 a (x36 : Int) σ)) (q := v28) hM hw0 hG ⟨by omega, by rw [sA_k (by decide)]; omega⟩ (by rw [cw9]; omega) (by rw [cw9]; omega) (by omega) (by omega) (by omega) f56 (by rw [← eC9]; exact f57); rw [show i5 + v58 = i5 + 1 by omega] at z; exact z) (by omega) rfl)
set_option maxHeartbeats 1000000 in
set_option maxRecDepth 20000 in
theorem k_X4_melt_x (d : Nat) {T : CT} {σ : MS} {a : Nat} {cs : Nat} {n : Int} {r : Int} {c : Nat} {C : Int → Nat} {NM PM : Int → Int} (ha : OB T a 4) (h_cs : (T cs).1 = 4 ∨ (T cs).1 = 5) (l_cs : (T cs).2 ≤ 1000000) (t_cs : (T cs).1 = 5) (h_n : -2147483648 ≤ n ∧ n ≤ 2147483647) (h_r : -2147483648 ≤ r ∧ r ≤ 2147483647) (h_c : OB T c 1) (t_c : (T c).1 = 50) (hw : WT T σ) (hM : MLG T σ a c C n r NM PM) (hH : cdH σ c NM n) (hCs : ∀ q, 0 ≤ q → q < n → σ.2.1 (1000 + cs) q = (C q : Int)) (hcl : n ≤ ((T cs).2 : Int)) : Tn (d + 6) m_X4_melt 0 T σ [(0, .ref a), (1, .ref cs), (2, .int (iI n)), (3, .int (iI r)), (4, .ref c)] [] (fun ro T2 σ2 => ∃ v : Int, ro = some (.int (iI v)) ∧ WT T2 σ2 ∧ FrC T [5, 6, 10, 25, 26, 27, 28, 29, 30, 31, 32] σ σ2 ∧ (-2147483648 ≤ v ∧ v ≤ 2147483647) ∧ (MLE T σ σ2 a c C n r NM PM v)) := by
  have hM0 := hM
  have hR9 := hM.1.1
  have ad9 := cd_ad hw hM.c50
  have aq9 := ad_ex (Q := fun x => AR T x 1 8 8) (wf_24 hw ha)
  refine tn_aload_n dX4_melt_0 rfl 0 rfl ?_
  refine tn_aload dX4_melt_1 4 rfl ?_
  refine tn_putV (ci := 4) (i := 2) (n := 25) (r := true) (v := (c : Int)) tyX4 tyX4_ok nmX4 dX4_melt_3 rfl lay_4 (by decide) fl4_19 rfl (tyX4_ok 2 (by decide)) (vl_ref rfl).symm rfl rfl ha rfl rfl ?_
  refine tn_iconst dX4_melt_6 ?_
  refine tn_istore (L' := [(5, .int (iI 0)), (0, .ref a), (1, .ref cs), (2, .int (iI n)), (3, .int (iI r)), (4, .ref c)]) dX4_melt_7 (by decide) rfl ?_
  refine tn_iconst dX4_melt_9 ?_
  refine tn_istore (L' := [(6, .int (iI 0)), (5, .int (iI 0)), (0, .ref a), (1, .ref cs), (2, .int (iI n)), (3, .int (iI r)), (4, .ref c)]) dX4_melt_10 (by decide) rfl ?_
  refine tn_sub [2, 3, 4, 5, 1, 0] rfl (l_X4_melt_x_12 (d) (σ0 := (sA 25 a ((c : Int)) σ)) (T0 := T) (a := a) (rx1 := cs) (c2 := n) (c3 := r) (cc := c) (C := C) (NM := NM) (PM := PM) (by omega) (by omega) (hw.put (by decide) (by decide) (fo_25 (Or.inr ⟨_, rfl, t_c⟩))) ra_eq hM.p25 (fun q x y => by rw [sA_k (by omega)]; exact hCs q x y) ⟨t_cs, hcl⟩ (by rw [ad_fld (by decide), ad_fld (by decide), ad_fld (by decide), ad_fld (by decide), ad_fld (by decide), ad_fld (by decide), ad_fld (by decide)]; exact ⟨fun e => by have z := (ad9 5 (by decide)).2; rw [← e] at z; omega, fun e => by have z := (ad9 11 (by decide)).2; rw [← e] at z; omega, fun e => by have z := (ad9 12 (by decide)).2; rw [← e] at z; omega, fun e => by have z := (ad9 13 (by decide)).2; rw [← e] at z; omega, fun e => by have z := (ad9 14 (by decide)).2; rw [← e] at z; omega, fun e => by have z := (ad9 15 (by decide)).2; rw [← e] at z; omega, fun e => by have z := aq9.2.1; rw [← e] at z; omega⟩) (fun T4 i51 i62 σ3 gt5 w6 F7 q8 q9 q10 q11 r12 r13 f14 f15 f16 => ?_) _ T (0) (0) (sA 25 a ((c : Int)) σ) GT.rfl (hw.put (by decide) (by decide) (fo_25 (Or.inr ⟨_, rfl, t_c⟩))) FrC.rfl ha h_cs (by omega) t_cs (by omega) (by omega) (MLI.start hM.p25 ((csm_fld (by decide) (by decide)).h hH)) (by omega) rfl)
  show Tn _ _ 119 T4 σ3 [(0, .ref a), (1, .ref cs), (2, .int (iI n)), (3, .int (iI r)), (5, .int (iI i51)), (6, .int (iI i62))] [] _
  refine tn_iload dX4_melt_119 4 rfl ?_
  exact tn_iret rfl dX4_melt_121 ⟨_, rfl, w6, ((FrC.rfl.put (by decide) (by decide)).trans (FrC.sub F7 (by decide))), by omega, (f14.fin f16)⟩
end
section
def RZA (V : Int → It) : Prop := ∀ i, rZ7 (V i)
theorem rz_n {i : It} (h : i 0 ≠ 7) : rZ7 i := fun q => absurd q h
theorem rz_z : rZ7 zI := rz_n (by show (0 : Int) ≠ 7; decide)
section RZS
variable {V V' O : Int → It} {n n' m k w : Int} {x : It}
theorem RZA.put (h : RZA V) (hx : rZ7 x) : RZA (uZ V k x) := fun i => by
  by_cases e : i = k
  · rw [e, uZ_eq]; exact hx
  · rw [uZ_ne e]; exact h i
theorem RZA.zero : RZA (fun _ => zI) := fun _ => rz_z
theorem rz_fo {K : KN} {i : It} (h : rZ7 i) : rZ7 (foZ (foA (foO K i 4))) := by
  have e0 : foO K i 4 0 = i 0 := if_neg (by omega)
  by_cases c : i 0 = 7
  · have z := h c
    have ea : foA (foO K i 4) = foO K i 4 := by unfold foA; rw [dI_n (fun q => by have := q.1; have := q.2.1; rw [e0] at *; omega)]
    have ez : foZ (foO K i 4) = foO K i 4 := by unfold foZ; rw [dI_n (fun q => by have := q.1; rw [e0] at *; omega)]
    rw [ea, ez]
    have ne : ∀ c, (c < 3 ∨ (5 ≤ c ∧ c ≤ 10) ∨ 11 ≤ c) → foO K i 4 c = i c := fun c hc => by
      unfold foO
      refine if_neg (fun q => ?_)
      have q3 := q.2.2.1
      have : c = 5 ∨ c = 6 ∨ c = 7 ∨ c = 8 ∨ c = 9 ∨ c = 10 := by omega
      rcases this with rfl | rfl | rfl | rfl | rfl | rfl
      · rw [show (3 : Int) + 2 * ((5 - 3) / 2) = 5 by decide] at q3; omega
      · rw [show (3 : Int) + 2 * ((6 - 3) / 2) = 5 by decide] at q3; omega
      · rw [show (3 : Int) + 2 * ((7 - 3) / 2) = 7 by decide] at q3; omega
      · rw [show (3 : Int) + 2 * ((8 - 3) / 2) = 7 by decide] at q3; omega
      · rw [show (3 : Int) + 2 * ((9 - 3) / 2) = 9 by decide] at q3; omega
      · rw [show (3 : Int) + 2 * ((10 - 3) / 2) = 9 by decide] at q3; omega
    intro _
    rw [ne 2 (by omega), ne 5 (by omega), ne 6 (by omega), ne 7 (by omega), ne 8 (by omega), ne 9 (by omega), ne 10 (by omega), ne 11 (by omega)]
    exact z
  · refine rz_n ?_
    have e1 : foA (foO K i 4) 0 ≠ 7 := by
      unfold foA
      by_cases a : five2 (foO K i 4)
      · rw [dI_y a]
        show uZ (uZ (uZ (uZ (uZ (foO K i 4) 0 0) 3 _) 4 _) 5 0) 6 0 0 ≠ 7
        rw [uZ_ne (by decide), uZ_ne (by decide), uZ_ne (by decide), uZ_ne (by decide), uZ_eq]
        decide
      · rw [dI_n a, e0]; exact c
    unfold foZ
    by_cases a : zer1 (foA (foO K i 4))
    · rw [dI_y a, uZ_ne (by decide), uZ_ne (by decide), uZ_eq]; decide
    · rw [dI_n a]; exact e1
theorem rz_b {K : KN} {i : It} (h : i 0 = 12) : rZ7 (foB K i) := rz_n (by
  unfold foB
  by_cases a : i 11 = 2 ∧ (K (i 4)).1 = 1
  · rw [dI_y a, uZ_ne (by decide), uZ_ne (by decide), uZ_ne (by decide), h]; decide
  · rw [dI_n a, h]; decide)
theorem RZA.fold (h : RZA V) (t : Nat) : RZA (foS V t).2.2.2 := by
  induction t with
  | zero => exact RZA.zero
  | succ t ih =>
    show RZA (foT (foS V t) (V t)).2.2.2
    unfold foT
    by_cases a : V t 0 = 13
    · rw [if_pos a]; exact ih.put (h t)
    · rw [if_neg a]
      by_cases b : V t 0 = 12
      · rw [if_pos b]; exact ih.put (rz_b b)
      · rw [if_neg b]
        by_cases c : V t 0 ≤ 10
        · rw [if_pos c]
          unfold foX
          by_cases z : zer1 (foA (foO (foS V t).1 (V t) 4)) ∧ foA (foO (foS V t).1 (V t) 4) 4 ≠ 0
          · show RZA (dI _ _ _); rw [dI_y z]; exact ih
          · show RZA (dI _ _ _); rw [dI_n z]; exact ih.put (rz_fo (h t))
        · rw [if_neg c]; exact ih.put (h t)
theorem RZA.to (h : RZA V) : RZA (toV V k) := fun i => by
  unfold toV
  split
  · exact h i
  · exact h (i + 1)
theorem RZA.rb (h : RZA V) : RZA (rbV V n k) := fun i => by
  unfold rbV
  by_cases a : nrV V n k i ∧ V i 0 = 12 ∧ V i 11 = 2 ∧ V i 4 = V k 1
  · rw [dI_y a]
    refine rz_n ?_
    have : tkI (V k) (V i) 0 = V i 0 := by
      unfold tkI
      split
      · rw [uZ_ne (by decide), uZ_ne (by decide), uZ_ne (by decide)]
      · rw [uZ_ne (by decide), uZ_ne (by decide), uZ_ne (by decide), uZ_ne (by decide), uZ_ne (by decide)]
    rw [this, a.2.1]; decide
  · rw [dI_n a]
    by_cases b : (0 ≤ i ∧ i < n) ∧ RCG V n (k + 1) (fun j => wrT (V j) (V k 1)) i ∧ V i 0 = 12 ∧ rdI (V i) (V k 1)
    · rw [dI_y b]
      refine rz_n ?_
      rw [show goI (V i) 12 0 = V i 0 from rfl, b.2.2.1]; decide
    · rw [dI_n b]; exact h i
theorem RZA.drr (h : RZA V) (t : Nat) : RZA (dr1 V n t).2.2 := by
  induction t with
  | zero => exact RZA.zero
  | succ t ih =>
    show RZA (dI (RCG V n 0 (fun _ => False) t) ((dr1 V n t).1 + 1, (dr1 V n t).2.1, uZ (dr1 V n t).2.2 (dr1 V n t).1 (V t)) ((dr1 V n t).1, (dr1 V n t).2.1 + (if V t 0 ≤ 10 then 1 else 0), (dr1 V n t).2.2)).2.2
    by_cases a : RCG V n 0 (fun _ => False) t
    · rw [dI_y a]; exact ih.put (h t)
    · rw [dI_n a]; exact ih
theorem RZA.drt {t : Nat} (h : RZA V) (g : DRT t V n V' n') : RZA V' := by
  induction t generalizing V' n' with
  | zero => rw [g.1]; exact h
  | succ t ih =>
    obtain ⟨V1, n1, k, h1, h2, h3, h4⟩ := g
    rw [h3]; exact (ih h1).rb.to
theorem RZA.li {p : Int} (h : RZA V) : RZA (liV V k p) := fun i => by
  unfold liV
  split
  · exact h k
  · split
    · exact h (i - 1)
    · exact h i
theorem RZA.mvt {H : Int → Prop} {q p a : Int} {t : Nat} (u : RZA V) (h : MVT H n q t V p V' a) : RZA V' := by
  induction t generalizing V' a with
  | zero => rw [h.1]; exact u
  | succ t ih =>
    obtain ⟨V1, p1, k, g1, g2, g3, g4⟩ := h
    rw [g3]; exact (ih g1).li
theorem RZA.mva {H : Int → Prop} {t : Nat} (u : RZA V) (h : MVA H n t V V' w) : RZA V' := by
  induction t generalizing V' w with
  | zero => rw [h.1]; exact u
  | succ t ih =>
    obtain ⟨V1, w1, d, h1, h2, h3⟩ := h
    have i := ih h1
    rcases h2 with ⟨a, b, c⟩ | ⟨a, q, b, ⟨c, d, e⟩ | ⟨c, t, p, d, e, f⟩⟩
    · rw [b]; exact i
    · rw [d]; exact i
    · exact i.mvt d
theorem RZA.als {t : Nat} (u : RZA V) (h : ALS t V V' w) : RZA V' := by
  induction t generalizing V' w with
  | zero => rw [h.1]; exact u
  | succ t ih =>
    obtain ⟨V1, w1, d, h1, h2, h3⟩ := h
    rcases h2 with ⟨j, a, b, c, e⟩ | ⟨a, b, c⟩
    · rw [c]
      refine (ih h1).put (rz_n ?_)
      show uZ (uZ (uZ (uZ (uZ (V1 t) 0 0) 3 _) 4 _) 5 0) 6 0 0 ≠ 7
      rw [uZ_ne (by decide), uZ_ne (by decide), uZ_ne (by decide), uZ_ne (by decide), uZ_eq]
      decide
    · rw [b]; exact ih h1
theorem rz_rn {nb : Int → Int} {i : It} (h : rZ7 i) : rZ7 (rnI nb i) := by
  have e0 : rnI nb i 0 = i 0 := by unfold rnI; rw [if_neg (by omega), if_neg (by omega)]
  intro q
  rw [e0] at q
  have z := h q
  have ne : ∀ c, c = 2 ∨ (5 ≤ c ∧ c ≤ 11) → rnI nb i c = i c := fun c hc => by
    unfold rnI
    rw [if_neg (by omega), if_neg (fun y => ?_)]
    have y2 := y.2
    have : c = 6 ∨ c = 8 ∨ c = 10 := by omega
    rcases this with rfl | rfl | rfl
    · rw [show (6 : Int) - 1 = 5 by decide] at y2; omega
    · rw [show (8 : Int) - 1 = 7 by decide] at y2; omega
    · rw [show (10 : Int) - 1 = 9 by decide] at y2; omega
  rw [ne 2 (by omega), ne 5 (by omega), ne 6 (by omega), ne 7 (by omega), ne 8 (by omega), ne 9 (by omega), ne 10 (by omega), ne 11 (by omega)]
  exact z
theorem RZA.sh {nb : Int → Int} {bg : Int → Prop} (u : RZA V) : RZA (shV V n nb bg) := fun i => by
  unfold shV
  by_cases a : 0 ≤ i ∧ i < n
  · rw [if_pos a]
    refine rz_rn ?_
    unfold ubV
    by_cases b : (0 ≤ i ∧ i < n) ∧ V i 0 = 12 ∧ RCG V n 0 (fun _ => False) i ∧ ∃ u, rdI (V i) u ∧ lsV V n nb bg i u
    · rw [dI_y b]
      refine rz_n ?_
      rw [show goI (V i) 13 0 = V i 0 from rfl, b.2.1]; decide
    · rw [dI_n b]; exact u i
  · rw [if_neg a]; exact rz_z
theorem rz_bA {s : BB} (h : RZA s.2) (hx : rZ7 x) : RZA (bA s x).2 := h.put hx
theorem rz_mk {a b c d e f : Int} (h : a ≠ 7) : rZ7 (mkI a b c d e f) := rz_n h
theorem rz_1 {f base P : Int} {na : Int → Int} {y : It} {s : BB} (h : RZA s.2) (t : Nat) : RZA (mb1 f base P na y s t).2 := by
  induction t with
  | zero => exact h
  | succ t ih =>
    show RZA (nmS f base P na y t (mb1 f base P na y s t)).2
    unfold nmS
    split
    · exact rz_bA (rz_bA ih (rz_mk (by decide))) (rz_mk (by decide))
    · exact rz_bA ih (rz_mk (by decide))
theorem rz_2 {base : Int} {lv : Int → Prop} {s : BB} (h : RZA s.2) (t : Nat) : RZA (mb2 base lv s t).2 := by
  induction t with
  | zero => exact h
  | succ t ih =>
    show RZA (dI (lv t) (bA (mb2 base lv s t) (mkI 0 (base + t) 0 1 0 0)) (mb2 base lv s t)).2
    by_cases a : lv t
    · rw [dI_y a]; exact rz_bA ih (rz_mk (by decide))
    · rw [dI_n a]; exact ih
theorem rz_3 {f base lb to out : Int} {s : BB} (h : RZA s.2) (t : Nat) : RZA (mb3 f base lb to out V s t).2 := by
  induction t with
  | zero => exact h
  | succ t ih =>
    show RZA (if V t 0 = 7 then bA (bA (mb3 f base lb to out V s t) (uZ (uZ (shO base (V t)) 0 0) 1 to)) (mkI 8 out 0 0 0 0) else bA (mb3 f base lb to out V s t) (mlI f base lb (V t))).2
    by_cases a : V t 0 = 7
    · rw [if_pos a]
      exact rz_bA (rz_bA ih (rz_n (by rw [uZ_ne (by decide), uZ_eq]; decide))) (rz_mk (by decide))
    · rw [if_neg a]
      exact rz_bA ih (rz_n (by rw [ml_0]; exact a))
theorem rz_m {f base lb out to P N nq : Int} {na : Int → Int} {y : It} {lv : Int → Prop} : RZA (mkB f base lb out to P N nq na y lv V).2 := rz_bA (rz_bA (rz_3 (rz_2 (rz_1 (rz_bA RZA.zero (rz_mk (by decide))) _) _) _) (rz_mk (by decide))) (rz_mk (by decide))
theorem RZA.sp {a : Int} {B : Int → It} (u : RZA V) (b : RZA B) : RZA (spV V k a B) := fun i => by
  unfold spV
  split
  · exact u i
  · split
    · exact b _
    · exact u _
end RZS
theorem RZA.mlr {r : Int} {Gs : Int → RTS} {PM NM : Int → Int} {t : Nat} {H H' : RTS} {k k' w : Int} (u : RZA H.V) (h : MLR r Gs PM NM t H k H' k' w) : RZA H'.V := by
  induction t generalizing H' k' w with
  | zero => rw [h.1]; exact u
  | succ t ih =>
    obtain ⟨H1, k1, w1, d, h1, h2, h3, h4⟩ := h
    have i := ih h1
    rcases h3 with ⟨base, lb, lq, j0, m, m1, m2, m3, m4, e1, e2, e3⟩ | ⟨m, e1, e2, e3⟩
    · rw [e1]; exact RZA.sp i rz_m
    · rw [e1]; exact i
theorem PSV.rz {w r v : Int} {Gs : Int → RTS} {PM NM : Int → Int} {H H' : RTS} (h : PSV w r Gs PM NM H H' v) (u : RZA H.V) : RZA H'.V := by
  rcases h with ⟨a, ⟨K, b⟩, _⟩ | ⟨a, ⟨t, b, _⟩, _⟩ | ⟨a, b, d, _⟩ | ⟨a, b, d, _⟩ | ⟨a, t, b⟩ | ⟨a, nb, b, b1, b2, b3⟩
  · have z := u.fold H.n.toNat
    rw [b] at z
    exact z
  · exact (u.drr _).drt b
  · exact u.mva b
  · exact u.als b
  · exact u.mlr b
  · rw [b2]; exact u.sh
end
section
abbrev AFL : List Nat := [5, 11, 12, 13, 14, 15, 16, 18, 19, 20, 21, 24, 36, 37, 39, 40, 41, 48, 49, 52, 53, 54, 59, 60, 61, 62, 63, 64, 73, 74, 75, 76, 77, 78, 79, 81, 82, 83, 89, 90, 91, 95]
def INJ (S : Nat → Prop) (T : CT) (σ : MS) : Prop := (∀ b, S b → 30 ≤ (T b).1 ∧ (T b).1 < 80) ∧ ∀ f g a b, f ∈ AFL → g ∈ AFL → S a → S b → OB T a (cls f) → OB T b (cls g) → adN σ f a = adN σ g b → f = g ∧ a = b
theorem INJ.ne {S : Nat → Prop} {T : CT} {σ : MS} {f g a b : Nat} (h : INJ S T σ) (sa : S a) (sb : S b) (oa : OB T a (cls f)) (ob : OB T b (cls g)) (hf : f ∈ AFL) (hg : g ∈ AFL) (ne : f ≠ g ∨ a ≠ b) : adN σ f a ≠ adN σ g b := fun e => by
  have z := h.2 f g a b hf hg sa sb oa ob e
  omega
theorem ob50 {T : CT} {c : Nat} (h : (T c).1 = 50) : OB T c 1 := ⟨by omega, by rw [h]; rfl, by omega⟩
theorem rw_keep {σ σ2 : MS} {ks : List (Nat × Nat)} {rs ls : List Nat} {f c : Nat} (ch : CHX ks rs ls σ σ2) (hf : f < 1000) (hk : (f, c) ∉ ks) (hr : adN σ f c ∉ rs) : rwF σ2 f c = rwF σ f c := by
  unfold rwF
  rw [show adN σ2 f c = adN σ f c by unfold adN; rw [ch.f hf hk]]
  exact ch.r hr
theorem cds_tl {σ σ2 : MS} {c : Nat} (h10 : σ2.2.1 10 c = σ.2.1 10 c) (h11 : rwF σ2 11 c = rwF σ 11 c) (h12 : rwF σ2 12 c = rwF σ 12 c) (h13 : rwF σ2 13 c = rwF σ 13 c) (h14 : rwF σ2 14 c = rwF σ 14 c) (h15 : rwF σ2 15 c = rwF σ 15 c) : (cdS σ2 c).2.2 = (cdS σ c).2.2 := by
  unfold cdS cRS
  rw [h10, h11, h12, h13, h14, h15]
def RNC (σ σ2 : MS) (c : Nat) (w : Int) (NM : Int → Int) : Prop := (w = 4 ∧ ∃ R, cdH σ2 c NM R) ∨ (σ2.2.1 10 c = σ.2.1 10 c ∧ rwF σ2 11 c = rwF σ 11 c ∧ rwF σ2 14 c = rwF σ 14 c)
def PSO (T : CT) (σ σ2 : MS) (c : Nat) (w r : Int) (Gs : Int → RTS) (PM NM : Int → Int) (v : Int) : Prop := PSV w r Gs PM NM (cdS σ c) (cdS σ2 c) v ∧ WOK (cdW σ2 c) (σ2.2.1 6 c) ∧ (0 ≤ σ2.2.1 6 c ∧ σ2.2.1 6 c ≤ 200) ∧ (σ2.2.1 5 c = σ.2.1 5 c ∨ ¬ ((T (adN σ2 5 c)).1 ≠ 0 ∧ (T (adN σ2 5 c)).1 < 80)) ∧ RNC σ σ2 c w NM
section PSW
variable {S : Nat → Prop} {T : CT} {σ : MS} {a c : Nat} {Gs : Int → RTS} {PM NM : Int → Int} {R r : Int}
theorem k_fold_c (d : Nat) (ha : OB T a 6) (_hc : OB T c 1) (hc : (T c).1 = 50) (hw : WT T σ) (sa : S a) (sc : S c) (hI : INJ S T σ) (hN : σ.2.1 6 c ≤ 200) (hwok : WOK (cdW σ c) (σ.2.1 6 c)) : Tn (d + 4) m_X6_fold 0 T σ [(0, .ref a), (1, .ref c)] [] (fun ro T2 σ2 => ∃ v : Int, ro = some (.int (iI v)) ∧ T = T2 ∧ WT T2 σ2 ∧ FrC T [6] σ σ2 ∧ (-2147483648 ≤ v ∧ v ≤ 2147483647) ∧ (CHX [(6, c)] [adN σ 5 c, adN σ 52 a, adN σ 53 a] [] σ σ2) ∧ PSO T σ σ2 c 0 r Gs PM NM v) := by
  have ec := cd_ad hw hc
  have e52 := ad_ex (Q := fun x => AR T x 1 192 192) (wf_52 hw ha)
  have e53 := ad_ex (Q := fun x => AR T x 1 192 192) (wf_53 hw ha)
  refine (k_X6_fold_x d ha (ob50 hc) hc hw (ec 5 (by decide)).1 rfl rfl e52.1 e53.1 rfl rfl hN ⟨(hI.ne sa sc ha (ob50 hc) (by decide) (by decide) (Or.inl (by decide))), (hI.ne sa sc ha (ob50 hc) (by decide) (by decide) (Or.inl (by decide))), (hI.ne sa sa ha ha (by decide) (by decide) (Or.inl (by decide)))⟩ hwok).mono (fun ro T2 σ2 hp => ?_)
  obtain ⟨v, p1, p2, p3, p4, p5, ch, ⟨K, p7⟩, p8, p9⟩ := hp
  have w2 : cdW σ2 c = cW σ2 (adN σ 5 c) (σ2.2.1 6 c) := by unfold cdW; rw [show adN σ2 5 c = adN σ 5 c by unfold adN; rw [ch.f (by decide) (by simp)]]
  rw [← w2] at p7 p8
  refine ⟨v, p1, p2, p3, p4, p5, ch, Or.inl ⟨rfl, ⟨K, p7⟩, ?_⟩, p8, p9, Or.inl (ch.f (by decide) (by simp)), Or.inr ⟨ch.f (by decide) (by simp), (rw_keep ch (by decide) (by simp) (by simp only [List.mem_cons, List.not_mem_nil, or_false, not_or]; exact ⟨(hI.ne sc sc (ob50 hc) (ob50 hc) (by decide) (by decide) (Or.inl (by decide))), (hI.ne sc sa (ob50 hc) ha (by decide) (by decide) (Or.inl (by decide))), (hI.ne sc sa (ob50 hc) ha (by decide) (by decide) (Or.inl (by decide)))⟩)), (rw_keep ch (by decide) (by simp) (by simp only [List.mem_cons, List.not_mem_nil, or_false, not_or]; exact ⟨(hI.ne sc sc (ob50 hc) (ob50 hc) (by decide) (by decide) (Or.inl (by decide))), (hI.ne sc sa (ob50 hc) ha (by decide) (by decide) (Or.inl (by decide))), (hI.ne sc sa (ob50 hc) ha (by decide) (by decide) (Or.inl (by decide)))⟩))⟩⟩
  exact cds_tl (ch.f (by decide) (by simp)) (rw_keep ch (by decide) (by simp) (by simp only [List.mem_cons, List.not_mem_nil, or_false, not_or]; exact ⟨(hI.ne sc sc (ob50 hc) (ob50 hc) (by decide) (by decide) (Or.inl (by decide))), (hI.ne sc sa (ob50 hc) ha (by decide) (by decide) (Or.inl (by decide))), (hI.ne sc sa (ob50 hc) ha (by decide) (by decide) (Or.inl (by decide)))⟩)) (rw_keep ch (by decide) (by simp) (by simp only [List.mem_cons, List.not_mem_nil, or_false, not_or]; exact ⟨(hI.ne sc sc (ob50 hc) (ob50 hc) (by decide) (by decide) (Or.inl (by decide))), (hI.ne sc sa (ob50 hc) ha (by decide) (by decide) (Or.inl (by decide))), (hI.ne sc sa (ob50 hc) ha (by decide) (by decide) (Or.inl (by decide)))⟩)) (rw_keep ch (by decide) (by simp) (by simp only [List.mem_cons, List.not_mem_nil, or_false, not_or]; exact ⟨(hI.ne sc sc (ob50 hc) (ob50 hc) (by decide) (by decide) (Or.inl (by decide))), (hI.ne sc sa (ob50 hc) ha (by decide) (by decide) (Or.inl (by decide))), (hI.ne sc sa (ob50 hc) ha (by decide) (by decide) (Or.inl (by decide)))⟩)) (rw_keep ch (by decide) (by simp) (by simp only [List.mem_cons, List.not_mem_nil, or_false, not_or]; exact ⟨(hI.ne sc sc (ob50 hc) (ob50 hc) (by decide) (by decide) (Or.inl (by decide))), (hI.ne sc sa (ob50 hc) ha (by decide) (by decide) (Or.inl (by decide))), (hI.ne sc sa (ob50 hc) ha (by decide) (by decide) (Or.inl (by decide)))⟩)) (rw_keep ch (by decide) (by simp) (by simp only [List.mem_cons, List.not_mem_nil, or_false, not_or]; exact ⟨(hI.ne sc sc (ob50 hc) (ob50 hc) (by decide) (by decide) (Or.inl (by decide))), (hI.ne sc sa (ob50 hc) ha (by decide) (by decide) (Or.inl (by decide))), (hI.ne sc sa (ob50 hc) ha (by decide) (by decide) (Or.inl (by decide)))⟩))
theorem k_alike_c (d : Nat) (ha : OB T a 6) (_hc : OB T c 1) (hc : (T c).1 = 50) (hw : WT T σ) (sa : S a) (sc : S c) (hI : INJ S T σ) (hN : σ.2.1 6 c ≤ 200) (hwok : WOK (cdW σ c) (σ.2.1 6 c)) (hn0 : 0 ≤ σ.2.1 6 c) : Tn (d + 5) m_X6_alike 0 T σ [(0, .ref a), (1, .ref c)] [] (fun ro T2 σ2 => ∃ v : Int, ro = some (.int (iI v)) ∧ T = T2 ∧ WT T2 σ2 ∧ FrC T [] σ σ2 ∧ (-2147483648 ≤ v ∧ v ≤ 2147483647) ∧ (CHX [] [adN σ 5 c] [adN σ 54 a] σ σ2) ∧ PSO T σ σ2 c 3 r Gs PM NM v) := by
  have ec := cd_ad hw hc
  have e54 := ad_ex (Q := fun x => AR T x 3 3 3) (wf_54 hw ha)
  refine (k_X6_alike_x d ha (ob50 hc) hc hw (ec 5 (by decide)).1 rfl rfl e54.1 hN hwok).mono (fun ro T2 σ2 hp => ?_)
  obtain ⟨v, p1, p2, p3, p4, p5, ch, p7, p8⟩ := hp
  have w2 : cdW σ2 c = cW σ2 (adN σ 5 c) (σ2.2.1 6 c) := by unfold cdW; rw [show adN σ2 5 c = adN σ 5 c by unfold adN; rw [ch.f (by decide) (by simp)]]
  have n6 : σ2.2.1 6 c = σ.2.1 6 c := ch.f (by decide) (by simp)
  rw [← n6, ← w2] at p8
  have p7' : ALS (σ.2.1 6 c).toNat (vW (cdW σ c)) (vW (cdW σ2 c)) v := by rw [w2, n6]; exact p7
  refine ⟨v, p1, p2, p3, p4, p5, ch, Or.inr (Or.inr (Or.inr (Or.inl ⟨rfl, p7', n6, ?_⟩))), p8, by omega, Or.inl (ch.f (by decide) (by simp)), Or.inr ⟨ch.f (by decide) (by simp), (rw_keep ch (by decide) (by simp) (by simp only [List.mem_cons, List.not_mem_nil, or_false, not_or]; exact (hI.ne sc sc (ob50 hc) (ob50 hc) (by decide) (by decide) (Or.inl (by decide))))), (rw_keep ch (by decide) (by simp) (by simp only [List.mem_cons, List.not_mem_nil, or_false, not_or]; exact (hI.ne sc sc (ob50 hc) (ob50 hc) (by decide) (by decide) (Or.inl (by decide)))))⟩⟩
  exact cds_tl (ch.f (by decide) (by simp)) (rw_keep ch (by decide) (by simp) (by simp only [List.mem_cons, List.not_mem_nil, or_false, not_or]; exact (hI.ne sc sc (ob50 hc) (ob50 hc) (by decide) (by decide) (Or.inl (by decide))))) (rw_keep ch (by decide) (by simp) (by simp only [List.mem_cons, List.not_mem_nil, or_false, not_or]; exact (hI.ne sc sc (ob50 hc) (ob50 hc) (by decide) (by decide) (Or.inl (by decide))))) (rw_keep ch (by decide) (by simp) (by simp only [List.mem_cons, List.not_mem_nil, or_false, not_or]; exact (hI.ne sc sc (ob50 hc) (ob50 hc) (by decide) (by decide) (Or.inl (by decide))))) (rw_keep ch (by decide) (by simp) (by simp only [List.mem_cons, List.not_mem_nil, or_false, not_or]; exact (hI.ne sc sc (ob50 hc) (ob50 hc) (by decide) (by decide) (Or.inl (by decide))))) (rw_keep ch (by decide) (by simp) (by simp only [List.mem_cons, List.not_mem_nil, or_false, not_or]; exact (hI.ne sc sc (ob50 hc) (ob50 hc) (by decide) (by decide) (Or.inl (by decide)))))
theorem k_move_c (d : Nat) (ha : OB T a 6) (_hc : OB T c 1) (hc : (T c).1 = 50) (hw : WT T σ) (sa : S a) (sc : S c) (hI : INJ S T σ) (hN : σ.2.1 6 c ≤ 200) (hwok : WOK (cdW σ c) (σ.2.1 6 c)) (hn0 : 0 ≤ σ.2.1 6 c) (hNM : ∀ f, 0 ≤ f → f < σ.2.1 10 c → NM (rwF σ 11 c f) = rwF σ 14 c f) : Tn (d + 7) m_X6_move 0 T σ [(0, .ref a), (1, .ref c)] [] (fun ro T2 σ2 => ∃ v : Int, ro = some (.int (iI v)) ∧ T = T2 ∧ WT T2 σ2 ∧ FrC T [] σ σ2 ∧ (-2147483648 ≤ v ∧ v ≤ 2147483647) ∧ (CHX [] [adN σ 5 c, adN σ 16 c] [adN σ 54 a] σ σ2) ∧ PSO T σ σ2 c 2 r Gs PM NM v) := by
  have ec := cd_ad hw hc
  have e54 := ad_ex (Q := fun x => AR T x 3 3 3) (wf_54 hw ha)
  have e16 := ad_ex (Q := fun x => AR T x 1 13 13) (wf_16 hw (ob50 hc))
  refine (k_X6_move_x d ha (ob50 hc) hc hw (ec 5 (by decide)).1 rfl rfl e54.1 rfl (ec 14 (by decide)).1 rfl (ec 15 (by decide)).1 rfl e16.1 hN ⟨(hI.ne sc sc (ob50 hc) (ob50 hc) (by decide) (by decide) (Or.inl (by decide))), (hI.ne sc sc (ob50 hc) (ob50 hc) (by decide) (by decide) (Or.inl (by decide))), (hI.ne sc sc (ob50 hc) (ob50 hc) (by decide) (by decide) (Or.inl (by decide))), (hI.ne sc sc (ob50 hc) (ob50 hc) (by decide) (by decide) (Or.inl (by decide))), (hI.ne sc sc (ob50 hc) (ob50 hc) (by decide) (by decide) (Or.inl (by decide)))⟩ hwok).mono (fun ro T2 σ2 hp => ?_)
  obtain ⟨v, p1, p2, p3, p4, p5, ch, p7, p8⟩ := hp
  have w2 : cdW σ2 c = cW σ2 (adN σ 5 c) (σ2.2.1 6 c) := by unfold cdW; rw [show adN σ2 5 c = adN σ 5 c by unfold adN; rw [ch.f (by decide) (by simp)]]
  have n6 : σ2.2.1 6 c = σ.2.1 6 c := ch.f (by decide) (by simp)
  rw [← n6, ← w2] at p8
  have p7' : MVA (hmS (cdS σ c) NM) (σ.2.1 6 c) (σ.2.1 6 c).toNat (vW (cdW σ c)) (vW (cdW σ2 c)) v := by rw [w2, n6]; exact p7.c (fun g => hm_c hNM)
  refine ⟨v, p1, p2, p3, p4, p5, ch, Or.inr (Or.inr (Or.inl ⟨rfl, p7', n6, ?_⟩)), p8, by omega, Or.inl (ch.f (by decide) (by simp)), Or.inr ⟨ch.f (by decide) (by simp), (rw_keep ch (by decide) (by simp) (by simp only [List.mem_cons, List.not_mem_nil, or_false, not_or]; exact ⟨(hI.ne sc sc (ob50 hc) (ob50 hc) (by decide) (by decide) (Or.inl (by decide))), (hI.ne sc sc (ob50 hc) (ob50 hc) (by decide) (by decide) (Or.inl (by decide)))⟩)), (rw_keep ch (by decide) (by simp) (by simp only [List.mem_cons, List.not_mem_nil, or_false, not_or]; exact ⟨(hI.ne sc sc (ob50 hc) (ob50 hc) (by decide) (by decide) (Or.inl (by decide))), (hI.ne sc sc (ob50 hc) (ob50 hc) (by decide) (by decide) (Or.inl (by decide)))⟩))⟩⟩
  exact cds_tl (ch.f (by decide) (by simp)) (rw_keep ch (by decide) (by simp) (by simp only [List.mem_cons, List.not_mem_nil, or_false, not_or]; exact ⟨(hI.ne sc sc (ob50 hc) (ob50 hc) (by decide) (by decide) (Or.inl (by decide))), (hI.ne sc sc (ob50 hc) (ob50 hc) (by decide) (by decide) (Or.inl (by decide)))⟩)) (rw_keep ch (by decide) (by simp) (by simp only [List.mem_cons, List.not_mem_nil, or_false, not_or]; exact ⟨(hI.ne sc sc (ob50 hc) (ob50 hc) (by decide) (by decide) (Or.inl (by decide))), (hI.ne sc sc (ob50 hc) (ob50 hc) (by decide) (by decide) (Or.inl (by decide)))⟩)) (rw_keep ch (by decide) (by simp) (by simp only [List.mem_cons, List.not_mem_nil, or_false, not_or]; exact ⟨(hI.ne sc sc (ob50 hc) (ob50 hc) (by decide) (by decide) (Or.inl (by decide))), (hI.ne sc sc (ob50 hc) (ob50 hc) (by decide) (by decide) (Or.inl (by decide)))⟩)) (rw_keep ch (by decide) (by simp) (by simp only [List.mem_cons, List.not_mem_nil, or_false, not_or]; exact ⟨(hI.ne sc sc (ob50 hc) (ob50 hc) (by decide) (by decide) (Or.inl (by decide))), (hI.ne sc sc (ob50 hc) (ob50 hc) (by decide) (by decide) (Or.inl (by decide)))⟩)) (rw_keep ch (by decide) (by simp) (by simp only [List.mem_cons, List.not_mem_nil, or_false, not_or]; exact ⟨(hI.ne sc sc (ob50 hc) (ob50 hc) (by decide) (by decide) (Or.inl (by decide))), (hI.ne sc sc (ob50 hc) (ob50 hc) (by decide) (by decide) (Or.inl (by decide)))⟩))
theorem k_drop_c (d : Nat) (ha : OB T a 2) (_hc : OB T c 1) (hc : (T c).1 = 50) (hw : WT T σ) (sa : S a) (sc : S c) (hI : INJ S T σ) (hN : σ.2.1 6 c ≤ 200) (hwok : WOK (cdW σ c) (σ.2.1 6 c)) (sf : S (adN σ 17 a)) (hmok : MOK (cdW σ c) (σ.2.1 6 c)) (hLk : LNK (cdW σ c) (σ.2.1 6 c)) (hU : UNQ (vW (cdW σ c)) (σ.2.1 6 c)) : Tn (d + 6) m_X2_drop 0 T σ [(0, .ref a), (1, .ref c)] [] (fun ro T2 σ2 => ∃ v : Int, ro = some (.int (iI v)) ∧ T = T2 ∧ WT T2 σ2 ∧ FrC T [6, 22] σ σ2 ∧ (-2147483648 ≤ v ∧ v ≤ 2147483647) ∧ (CHX [(22, adN σ 17 a), (6, c)] [adN σ 5 c, adN σ 20 (adN σ 17 a), adN σ 21 (adN σ 17 a)] [adN σ 18 (adN σ 17 a), adN σ 19 (adN σ 17 a)] σ σ2) ∧ PSO T σ σ2 c 1 r Gs PM NM v) := by
  have ec := cd_ad hw hc
  have efl := ad_ex (Q := fun x => (T x).1 = 33) (wf_17 hw ha)
  have hfl : OB T (adN σ 17 a) 3 := ⟨by have := efl.2; omega, by rw [efl.2]; rfl, by have := efl.2; omega⟩
  have e18 := ad_ex (Q := fun x => AR T x 3 603 603) (wf_18 hw hfl)
  have e19 := ad_ex (Q := fun x => AR T x 3 3 3) (wf_19 hw hfl)
  have e20 := ad_ex (Q := fun x => AR T x 1 201 201) (wf_20 hw hfl)
  have e21 := ad_ex (Q := fun x => AR T x 1 201 201) (wf_21 hw hfl)
  refine (k_X2_drop_x d ha (ob50 hc) hc hw (ec 5 (by decide)).1 rfl rfl efl.1 e18.1 e19.1 e20.1 e21.1 hN ⟨(hI.ne sf sf hfl hfl (by decide) (by decide) (Or.inl (by decide))), (hI.ne sc sf (ob50 hc) hfl (by decide) (by decide) (Or.inl (by decide))), (hI.ne sc sf (ob50 hc) hfl (by decide) (by decide) (Or.inl (by decide))), (hI.ne sf sf hfl hfl (by decide) (by decide) (Or.inl (by decide)))⟩ hwok hmok hLk hU).mono (fun ro T2 σ2 hp => ?_)
  obtain ⟨v, p1, p2, p3, p4, p5, ch, p7, p8, p9⟩ := hp
  have w2 : cdW σ2 c = cW σ2 (adN σ 5 c) (σ2.2.1 6 c) := by unfold cdW; rw [show adN σ2 5 c = adN σ 5 c by unfold adN; rw [ch.f (by decide) (by simp)]]
  rw [← w2] at p7 p8
  refine ⟨v, p1, p2, p3, p4, p5, ch, Or.inr (Or.inl ⟨rfl, p7, ?_⟩), p8.1, p9, Or.inl (ch.f (by decide) (by simp)), Or.inr ⟨ch.f (by decide) (by simp), (rw_keep ch (by decide) (by simp) (by simp only [List.mem_cons, List.not_mem_nil, or_false, not_or]; exact ⟨(hI.ne sc sc (ob50 hc) (ob50 hc) (by decide) (by decide) (Or.inl (by decide))), (hI.ne sc sf (ob50 hc) hfl (by decide) (by decide) (Or.inl (by decide))), (hI.ne sc sf (ob50 hc) hfl (by decide) (by decide) (Or.inl (by decide)))⟩)), (rw_keep ch (by decide) (by simp) (by simp only [List.mem_cons, List.not_mem_nil, or_false, not_or]; exact ⟨(hI.ne sc sc (ob50 hc) (ob50 hc) (by decide) (by decide) (Or.inl (by decide))), (hI.ne sc sf (ob50 hc) hfl (by decide) (by decide) (Or.inl (by decide))), (hI.ne sc sf (ob50 hc) hfl (by decide) (by decide) (Or.inl (by decide)))⟩))⟩⟩
  exact cds_tl (ch.f (by decide) (by simp)) (rw_keep ch (by decide) (by simp) (by simp only [List.mem_cons, List.not_mem_nil, or_false, not_or]; exact ⟨(hI.ne sc sc (ob50 hc) (ob50 hc) (by decide) (by decide) (Or.inl (by decide))), (hI.ne sc sf (ob50 hc) hfl (by decide) (by decide) (Or.inl (by decide))), (hI.ne sc sf (ob50 hc) hfl (by decide) (by decide) (Or.inl (by decide)))⟩)) (rw_keep ch (by decide) (by simp) (by simp only [List.mem_cons, List.not_mem_nil, or_false, not_or]; exact ⟨(hI.ne sc sc (ob50 hc) (ob50 hc) (by decide) (by decide) (Or.inl (by decide))), (hI.ne sc sf (ob50 hc) hfl (by decide) (by decide) (Or.inl (by decide))), (hI.ne sc sf (ob50 hc) hfl (by decide) (by decide) (Or.inl (by decide)))⟩)) (rw_keep ch (by decide) (by simp) (by simp only [List.mem_cons, List.not_mem_nil, or_false, not_or]; exact ⟨(hI.ne sc sc (ob50 hc) (ob50 hc) (by decide) (by decide) (Or.inl (by decide))), (hI.ne sc sf (ob50 hc) hfl (by decide) (by decide) (Or.inl (by decide))), (hI.ne sc sf (ob50 hc) hfl (by decide) (by decide) (Or.inl (by decide)))⟩)) (rw_keep ch (by decide) (by simp) (by simp only [List.mem_cons, List.not_mem_nil, or_false, not_or]; exact ⟨(hI.ne sc sc (ob50 hc) (ob50 hc) (by decide) (by decide) (Or.inl (by decide))), (hI.ne sc sf (ob50 hc) hfl (by decide) (by decide) (Or.inl (by decide))), (hI.ne sc sf (ob50 hc) hfl (by decide) (by decide) (Or.inl (by decide)))⟩)) (rw_keep ch (by decide) (by simp) (by simp only [List.mem_cons, List.not_mem_nil, or_false, not_or]; exact ⟨(hI.ne sc sc (ob50 hc) (ob50 hc) (by decide) (by decide) (Or.inl (by decide))), (hI.ne sc sf (ob50 hc) hfl (by decide) (by decide) (Or.inl (by decide))), (hI.ne sc sf (ob50 hc) hfl (by decide) (by decide) (Or.inl (by decide)))⟩))
theorem k_share_c (d : Nat) (ha : OB T a 8) (_hc : OB T c 1) (hc : (T c).1 = 50) (hw : WT T σ) (sa : S a) (sc : S c) (hI : INJ S T σ) (hN : σ.2.1 6 c ≤ 200) (hwok : WOK (cdW σ c) (σ.2.1 6 c)) (sf : S (adN σ 72 a)) (hn0 : 0 ≤ σ.2.1 6 c) (hmok : MOK (cdW σ c) (σ.2.1 6 c)) (hLk : LNK (cdW σ c) (σ.2.1 6 c)) (hU : UNQ (vW (cdW σ c)) (σ.2.1 6 c)) (hna : HNO (rwF σ 14 c) (rwF σ 15 c) (σ.2.1 10 c)) (hgn : GNK (cdW σ c) (σ.2.1 6 c)) (hpn : σ.2.1 8 c ≤ rwF σ 14 c 0 ∧ 1 ≤ σ.2.1 10 c) (hrn12 : ∀ f, 0 ≤ f → f < σ.2.1 10 c → rwF σ 14 c f ≤ 12) (hNM : ∀ f, 0 ≤ f → f < σ.2.1 10 c → NM (rwF σ 11 c f) = rwF σ 14 c f) (hP : PM r = σ.2.1 8 c) : Tn (d + 5) m_X8_share 0 T σ [(0, .ref a), (1, .ref c)] [] (fun ro T2 σ2 => ∃ v : Int, ro = some (.int (iI v)) ∧ T = T2 ∧ WT T2 σ2 ∧ FrC T [80] σ σ2 ∧ (0 ≤ v ∧ v ≤ 192) ∧ (CHX [(80, a)] [adN σ 5 c, adN σ 15 c, adN σ 75 a, adN σ 78 a] [adN σ 18 (adN σ 72 a), adN σ 19 (adN σ 72 a), adN σ 74 a, adN σ 73 a, adN σ 76 a, adN σ 77 a, adN σ 79 a] σ σ2) ∧ PSO T σ σ2 c 5 r Gs PM NM v) := by
  have ec := cd_ad hw hc
  have efl := ad_ex (Q := fun x => (T x).1 = 33) (wf_72 hw ha)
  have hfl : OB T (adN σ 72 a) 3 := ⟨by have := efl.2; omega, by rw [efl.2]; rfl, by have := efl.2; omega⟩
  have e18 := ad_ex (Q := fun x => AR T x 3 603 603) (wf_18 hw hfl)
  have e19 := ad_ex (Q := fun x => AR T x 3 3 3) (wf_19 hw hfl)
  have e73 := ad_ex (Q := fun x => AR T x 3 576 576) (wf_73 hw ha)
  have e74 := ad_ex (Q := fun x => AR T x 3 3 3) (wf_74 hw ha)
  have e75 := ad_ex (Q := fun x => AR T x 1 192 192) (wf_75 hw ha)
  have e76 := ad_ex (Q := fun x => AR T x 3 576 576) (wf_76 hw ha)
  have e77 := ad_ex (Q := fun x => AR T x 3 603 603) (wf_77 hw ha)
  have e78 := ad_ex (Q := fun x => AR T x 1 201 201) (wf_78 hw ha)
  have e79 := ad_ex (Q := fun x => AR T x 3 3 3) (wf_79 hw ha)
  refine (k_X8_share_x d ha (ob50 hc) hc hw (ec 5 (by decide)).1 rfl rfl rfl (ec 14 (by decide)).1 rfl (ec 15 (by decide)).1 rfl rfl efl.1 e18.1 e19.1 e74.1 e73.1 e76.1 e75.1 e77.1 rfl e78.1 rfl e79.1 hN (hI.ne sf sf hfl hfl (by decide) (by decide) (Or.inl (by decide))) (hI.ne sf sa hfl ha (by decide) (by decide) (Or.inl (by decide))) (hI.ne sf sa hfl ha (by decide) (by decide) (Or.inl (by decide))) (hI.ne sf sa hfl ha (by decide) (by decide) (Or.inl (by decide))) (hI.ne sf sa hfl ha (by decide) (by decide) (Or.inl (by decide))) (hI.ne sf sa hfl ha (by decide) (by decide) (Or.inl (by decide))) (hI.ne sf sa hfl ha (by decide) (by decide) (Or.inl (by decide))) (hI.ne sf sa hfl ha (by decide) (by decide) (Or.inl (by decide))) (hI.ne sf sa hfl ha (by decide) (by decide) (Or.inl (by decide))) (hI.ne sf sa hfl ha (by decide) (by decide) (Or.inl (by decide))) (hI.ne sf sa hfl ha (by decide) (by decide) (Or.inl (by decide))) (hI.ne sa sa ha ha (by decide) (by decide) (Or.inl (by decide))) (hI.ne sa sa ha ha (by decide) (by decide) (Or.inl (by decide))) (hI.ne sa sa ha ha (by decide) (by decide) (Or.inl (by decide))) (hI.ne sa sa ha ha (by decide) (by decide) (Or.inl (by decide))) (hI.ne sa sa ha ha (by decide) (by decide) (Or.inl (by decide))) (hI.ne sa sa ha ha (by decide) (by decide) (Or.inl (by decide))) (hI.ne sa sa ha ha (by decide) (by decide) (Or.inl (by decide))) (hI.ne sa sa ha ha (by decide) (by decide) (Or.inl (by decide))) (hI.ne sa sa ha ha (by decide) (by decide) (Or.inl (by decide))) (hI.ne sa sa ha ha (by decide) (by decide) (Or.inl (by decide))) (hI.ne sc sc (ob50 hc) (ob50 hc) (by decide) (by decide) (Or.inl (by decide))) (hI.ne sc sc (ob50 hc) (ob50 hc) (by decide) (by decide) (Or.inl (by decide))) (hI.ne sc sa (ob50 hc) ha (by decide) (by decide) (Or.inl (by decide))) (hI.ne sc sa (ob50 hc) ha (by decide) (by decide) (Or.inl (by decide))) (hI.ne sc sc (ob50 hc) (ob50 hc) (by decide) (by decide) (Or.inl (by decide))) (hI.ne sc sa (ob50 hc) ha (by decide) (by decide) (Or.inl (by decide))) (hI.ne sc sa (ob50 hc) ha (by decide) (by decide) (Or.inl (by decide))) (hI.ne sc sa (ob50 hc) ha (by decide) (by decide) (Or.inl (by decide))) (hI.ne sc sa (ob50 hc) ha (by decide) (by decide) (Or.inl (by decide))) (hI.ne sa sa ha ha (by decide) (by decide) (Or.inl (by decide))) hwok hmok hLk hU hna hgn hpn hrn12).mono (fun ro T2 σ2 hp => ?_)
  obtain ⟨v, p1, p2, p3, p4, p5, ch, ⟨nb, q1, q2, q3, q4, q5⟩, p8, p9⟩ := hp
  have w2 : cdW σ2 c = cW σ2 (adN σ 5 c) (σ2.2.1 6 c) := by unfold cdW; rw [show adN σ2 5 c = adN σ 5 c by unfold adN; rw [ch.f (by decide) (by simp)]]
  have n6 : σ2.2.1 6 c = σ.2.1 6 c := ch.f (by decide) (by simp)
  have n10 : σ2.2.1 10 c = σ.2.1 10 c := ch.f (by decide) (by simp)
  have r15 : rwF σ2 15 c = σ2.2.1 (1000 + adN σ 15 c) := by unfold rwF adN; rw [ch.f (by decide) (by simp)]
  have r11 : rwF σ2 11 c = rwF σ 11 c := (rw_keep ch (by decide) (by simp) (by simp only [List.mem_cons, List.not_mem_nil, or_false, not_or]; exact ⟨(hI.ne sc sc (ob50 hc) (ob50 hc) (by decide) (by decide) (Or.inl (by decide))), (hI.ne sc sc (ob50 hc) (ob50 hc) (by decide) (by decide) (Or.inl (by decide))), (hI.ne sc sa (ob50 hc) ha (by decide) (by decide) (Or.inl (by decide))), (hI.ne sc sa (ob50 hc) ha (by decide) (by decide) (Or.inl (by decide)))⟩))
  have r12 : rwF σ2 12 c = rwF σ 12 c := (rw_keep ch (by decide) (by simp) (by simp only [List.mem_cons, List.not_mem_nil, or_false, not_or]; exact ⟨(hI.ne sc sc (ob50 hc) (ob50 hc) (by decide) (by decide) (Or.inl (by decide))), (hI.ne sc sc (ob50 hc) (ob50 hc) (by decide) (by decide) (Or.inl (by decide))), (hI.ne sc sa (ob50 hc) ha (by decide) (by decide) (Or.inl (by decide))), (hI.ne sc sa (ob50 hc) ha (by decide) (by decide) (Or.inl (by decide)))⟩))
  have r13 : rwF σ2 13 c = rwF σ 13 c := (rw_keep ch (by decide) (by simp) (by simp only [List.mem_cons, List.not_mem_nil, or_false, not_or]; exact ⟨(hI.ne sc sc (ob50 hc) (ob50 hc) (by decide) (by decide) (Or.inl (by decide))), (hI.ne sc sc (ob50 hc) (ob50 hc) (by decide) (by decide) (Or.inl (by decide))), (hI.ne sc sa (ob50 hc) ha (by decide) (by decide) (Or.inl (by decide))), (hI.ne sc sa (ob50 hc) ha (by decide) (by decide) (Or.inl (by decide)))⟩))
  have r14 : rwF σ2 14 c = rwF σ 14 c := (rw_keep ch (by decide) (by simp) (by simp only [List.mem_cons, List.not_mem_nil, or_false, not_or]; exact ⟨(hI.ne sc sc (ob50 hc) (ob50 hc) (by decide) (by decide) (Or.inl (by decide))), (hI.ne sc sc (ob50 hc) (ob50 hc) (by decide) (by decide) (Or.inl (by decide))), (hI.ne sc sa (ob50 hc) ha (by decide) (by decide) (Or.inl (by decide))), (hI.ne sc sa (ob50 hc) ha (by decide) (by decide) (Or.inl (by decide)))⟩))
  rw [← n6, ← w2] at p8
  have w3 : cW σ2 (adN σ 5 c) (σ.2.1 6 c) = cdW σ2 c := by rw [w2, n6]
  have q3' : vW (cdW σ2 c) = shV (vW (cdW σ c)) (σ.2.1 6 c) nb (bgV (vW (cdW σ c)) (σ.2.1 6 c) (pmC (rwF σ 15 c) (σ.2.1 8 c))) := by rw [← w3]; exact q3
  have q4' : ∀ f m, 0 ≤ f → f < σ.2.1 10 c → 0 ≤ m → m < rwF σ 14 c f → rwF σ2 15 c (12 * f + m) = nb (rwF σ 15 c (12 * f + m)) := by rw [r15]; exact q4
  have q5' : mxV (rgV (vW (cdW σ2 c)) (σ.2.1 6 c) (hmC (σ.2.1 10 c) (rwF σ 14 c) (rwF σ2 15 c))) v := by rw [r15, ← w3]; exact q5
  have pm : pmS (cdS σ c) (PM r) = pmC (rwF σ 15 c) (σ.2.1 8 c) := by
    funext g
    apply propext
    rw [hP]
    unfold pmS pmC
    constructor
    · rintro ⟨j, x, y, z⟩
      exact ⟨j, x, y, by rw [← z]; exact (na_c hpn.2 ⟨x, by omega⟩).symm⟩
    · rintro ⟨j, x, y, z⟩
      exact ⟨j, x, y, by rw [← z]; exact na_c hpn.2 ⟨x, by omega⟩⟩
  refine ⟨v, p1, p2, p3, p4, p5, ch, Or.inr (Or.inr (Or.inr (Or.inr (Or.inr ⟨rfl, nb, by rw [pm]; exact q1, q2, ?_, ?_⟩)))), p8, by omega, Or.inl (ch.f (by decide) (by simp)), Or.inr ⟨n10, r11, r14⟩⟩
  · unfold shS
    rw [pm]
    unfold cdS cRS
    refine Prod.ext n6 (Prod.ext q3' (Prod.ext n10 (Prod.ext (by rw [n10, r11]; rfl) (Prod.ext (by rw [n10, r12]; rfl) (Prod.ext (by rw [n10, r13]; rfl) ?_)))))
    funext f m
    show (if (0 ≤ f ∧ f < σ2.2.1 10 c) ∧ 0 ≤ m ∧ m < rwF σ2 14 c f then rwF σ2 15 c (12 * f + m) else 0) = if (0 ≤ f ∧ f < σ.2.1 10 c) ∧ 0 ≤ m ∧ m < NM (if 0 ≤ f ∧ f < σ.2.1 10 c then rwF σ 11 c f else 0) then nb (if (0 ≤ f ∧ f < σ.2.1 10 c) ∧ 0 ≤ m ∧ m < rwF σ 14 c f then rwF σ 15 c (12 * f + m) else 0) else 0
    rw [n10, r14]
    by_cases x : 0 ≤ f ∧ f < σ.2.1 10 c
    · rw [if_pos x, hNM f x.1 x.2]
      by_cases y : 0 ≤ m ∧ m < rwF σ 14 c f
      · rw [if_pos ⟨x, y⟩, if_pos ⟨x, y⟩, if_pos ⟨x, y⟩, q4' f m x.1 x.2 y.1 y.2]
      · rw [if_neg (fun z => y z.2), if_neg (fun z => y z.2)]
    · rw [if_neg (fun z => x z.1), if_neg (fun z => x z.1)]
  · have hN2 : ∀ f, 0 ≤ f → f < σ2.2.1 10 c → NM (rwF σ2 11 c f) = rwF σ2 14 c f := by rw [n10, r11, r14]; exact hNM
    have z := q5'.c (fun B => rgV_c (fun g => (hm_c (n := σ2.2.1 6 c) (W := cdW σ2 c) (Hp := rwF σ2 12 c) (Hl := rwF σ2 13 c) (F := σ.2.1 10 c) (Hr := rwF σ2 11 c) (Hn := rwF σ 14 c) (Hh := rwF σ2 15 c) (by rw [r11]; exact hNM)).symm))
    unfold cdS
    rw [n10, r14, n6]
    rw [n6] at z
    exact z
end PSW
end
