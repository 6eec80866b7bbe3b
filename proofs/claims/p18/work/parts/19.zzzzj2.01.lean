section
set_option maxHeartbeats 1000000 in
set_option maxRecDepth 20000 in
theorem l_X0_plainLine_j_2 (d : Nat) {T : CT} {σ0 : MS} {a : Nat} {pl : Nat} {pxa : Nat} {pxb : Nat} {pxc : Nat} {pxd : Nat} {pxe : Nat} {pxf : Nat} {y : Nat} {post : Option Value → CT → MS → Prop} (h_a : OB T a 0) (hw0 : WT T σ0) (hpl : σ0.2.1 1 a = (pl : Int)) (hpxa : σ0.2.1 59 pl = (pxa : Int)) (hpxb : σ0.2.1 60 pl = (pxb : Int)) (hpxc : σ0.2.1 61 pl = (pxc : Int)) (hpxd : σ0.2.1 62 pl = (pxd : Int)) (hpxe : σ0.2.1 63 pl = (pxe : Int)) (hpxf : σ0.2.1 64 pl = (pxf : Int)) (hy : σ0.2.1 55 pl = (y : Int)) (hx_29 : ∀ (i1 : Int) (σ : MS) , (WT T σ) → (FrC T [56, 57, 58, 65, 66, 67, 68, 69, 515] σ0 σ) → (0 ≤ i1 ∧ i1 ≤ 2147483647) → (CHX [(56, pl), (57, pl), (58, pl), (65, pl), (66, pl), (67, pl), (68, pl), (69, pl), (70, pl), (71, pl)] [pxa, pxb, pxc, pxd, pxe, pxf] [] σ0 σ) → (PB σ a) → (FA (σ0.2.1 1 a).toNat σ0 σ) → (True) → (True) → (∃ τ1 : MS, JSN9 T pl pxa pxb pxc pxd pxe pxf y i1.toNat σ0 τ1 ∧ CHX (RNL pl) [pxa, pxb, pxc, pxd, pxe, pxf] [] σ0 τ1 ∧ τ1.2.1 56 pl = 1 ∧ JST T τ1 pl pxa pxb pxc pxd pxe pxf y 1 σ) → (0 ≤ i1 ∧ i1 < 1000000) → Tn (d + 6) m_X0_plainLine 29 T σ [(0, .ref a), (1, .int (iI i1))] [] post) (hx_37 : ∀ (i1 : Int) (σ : MS) , (WT T σ) → (FrC T [56, 57, 58, 65, 66, 67, 68, 69, 515] σ0 σ) → (0 ≤ i1 ∧ i1 ≤ 2147483647) → (CHX [(56, pl), (57, pl), (58, pl), (65, pl), (66, pl), (67, pl), (68, pl), (69, pl), (70, pl), (71, pl)] [pxa, pxb, pxc, pxd, pxe, pxf] [] σ0 σ) → (PB σ a) → (FA (σ0.2.1 1 a).toNat σ0 σ) → (True) → (True) → (JSN9 T pl pxa pxb pxc pxd pxe pxf y i1.toNat σ0 σ ∧ CHX (RNL pl) [pxa, pxb, pxc, pxd, pxe, pxf] [] σ0 σ) → (¬ (i1 < 1000000 ∧ σ.2.1 56 pl = 1)) → (0 ≤ i1 ∧ i1 ≤ 1000000) → Tn (d + 6) m_X0_plainLine 37 T σ [(0, .ref a), (1, .int (iI i1))] [] post) : ∀ (nq9 : Nat) (i1 : Int) (σ : MS) , (WT T σ) → (FrC T [56, 57, 58, 65, 66, 67, 68, 69, 515] σ0 σ) → (0 ≤ i1 ∧ i1 ≤ 2147483647) → (CHX [(56, pl), (57, pl), (58, pl), (65, pl), (66, pl), (67, pl), (68, pl), (69, pl), (70, pl), (71, pl)] [pxa, pxb, pxc, pxd, pxe, pxf] [] σ0 σ) → (PB σ a) → (FA (σ0.2.1 1 a).toNat σ0 σ) → (JSN9 T pl pxa pxb pxc pxd pxe pxf y i1.toNat σ0 σ) → (0 ≤ i1 ∧ i1 ≤ 1000000) → (2147483700 - i1).toNat = nq9 → Tn (d + 6) m_X0_plainLine 2 T σ [(0, .ref a), (1, .int (iI i1))] [] post := by
  intro nq9
  induction nq9 using Nat.strongRecOn with
  | _ nq9 ih =>
    intro i1 σ hw hF r_i1 hC hb hfa hJ hI hm
    refine tn_iload_n dX0_plainLine_2 rfl 1 rfl ?_
    refine tn_ldc (n := 1000000) dX0_plainLine_3 cst0_53 rfl ?_
    refine tn_icmp_ge (tgt := 37) dX0_plainLine_5 (by decide) ⟨by omega, by omega⟩ ⟨by decide, by decide⟩ (fun h1 => ?_) (fun h1 => ?_)
    · exact tn_sub [0, 1] rfl (hx_37 (i1) σ hw (FrC.rfl.trans (FrC.sub hF (by decide))) (by omega) hC hb hfa trivial trivial ⟨hJ, hC⟩ (by omega) (by omega))
    · refine tn_aload_n dX0_plainLine_8 rfl 0 rfl ?_
      have hk4 : (T pl).1 = 57 := ob_of (wf_1 hw0 h_a) hpl
      have hk4o : OB T pl 7 := ⟨by omega, by rw [hk4]; rfl, by omega⟩
      refine tn_getR (ci := 0) (i := 1) (n := 1) (x := pl) dX0_plainLine_9 rfl lay_0 (by decide) fl0_20 h_a rfl rfl (rc_F hF (Or.inl (by decide)) (by decide) (hpl)) ?_
      refine tn_getI (ci := 7) (i := 1) (n := 56) (t := σ.2.1 56 pl) dX0_plainLine_12 rfl lay_7 (by decide) fl0_33 hk4o rfl rfl (rfl) ?_
      have g6 : ((-2147483648 : Int) ≤ σ.2.1 56 pl ∧ σ.2.1 56 pl ≤ 2147483647) := wf_56 hw hk4o
      refine tn_iconst dX0_plainLine_15 ?_
      refine tn_icmp_ne (tgt := 37) dX0_plainLine_16 (by decide) ⟨by omega, by omega⟩ ⟨by decide, by decide⟩ (fun h7 => ?_) (fun h7 => ?_)
      · exact tn_sub [0, 1] rfl (hx_37 (i1) σ hw (FrC.rfl.trans (FrC.sub hF (by decide))) (by omega) hC hb hfa trivial trivial ⟨hJ, hC⟩ (by omega) (by omega))
      · refine tn_aload_n dX0_plainLine_19 rfl 0 rfl ?_
        refine tn_getR (ci := 0) (i := 1) (n := 1) (x := pl) dX0_plainLine_20 rfl lay_0 (by decide) fl0_20 h_a rfl rfl (rc_F hF (Or.inl (by decide)) (by decide) (hpl)) ?_
        obtain ⟨hk10, hl11⟩ : AR T pxa 15 9 9 := ar_of (wf_59 hw0 hk4o) hpxa
        have hk10i : IA T pxa := by unfold IA; omega
        obtain ⟨hk14, hl15⟩ : AR T pxb 1 9 9 := ar_of (wf_60 hw0 hk4o) hpxb
        have hk14i : IA T pxb := by unfold IA; omega
        obtain ⟨hl19, hk18a, hk18b⟩ := ex_at (wf_61 hw0 hk4o) hpxc
        have hk18 : (T pxc).1 = 14 := hk18a (by omega)
        clear hk18a hk18b
        have hk18i : IA T pxc := by unfold IA; omega
        obtain ⟨hk22, hl23⟩ : AR T pxd 1 108 108 := ar_of (wf_62 hw0 hk4o) hpxd
        have hk22i : IA T pxd := by unfold IA; omega
        obtain ⟨hk26, hl27⟩ : AR T pxe 1 1728 1728 := ar_of (wf_63 hw0 hk4o) hpxe
        have hk26i : IA T pxe := by unfold IA; omega
        obtain ⟨hk30, hl31⟩ : AR T pxf 1 200 200 := ar_of (wf_64 hw0 hk4o) hpxf
        have hk30i : IA T pxf := by unfold IA; omega
        obtain ⟨hl35, hk34a, hk34b⟩ := ex_at (wf_55 hw0 hk4o) hy
        have hk34i : (T y).1 = 4 ∨ (T y).1 = 5 := by omega
        have hk34c : RROW T pl y := ⟨hk34a, hk34b⟩
        clear hk34a hk34b
        refine tn_callV (M := m_X0_plainLine) (pc := 23) (ix := 36) (ci := 7) (M' := m_X7_step) (As := []) (rest := []) dX0_plainLine_23 ok_X7_step im_X7_step se_X7_step ml0_36 np_X7_step rfl rfl hk4o rfl (Nat.le_of_ble_eq_true rfl) (Nat.le_of_ble_eq_true rfl) rfl (k_X7_step_j57 (d) (T := T) (σ := σ) (a := pl) (xa := pxa) (xb := pxb) (xc := pxc) (xd := pxd) (xe := pxe) (xf := pxf) (y := y) hk4o hk4 hw (rc_F hF (Or.inl (by decide)) (by decide) (hpxa)) (rc_F hF (Or.inl (by decide)) (by decide) (hpxb)) (rc_F hF (Or.inl (by decide)) (by decide) (hpxc)) (rc_F hF (Or.inl (by decide)) (by decide) (hpxd)) (rc_F hF (Or.inl (by decide)) (by decide) (hpxe)) (rc_F hF (Or.inl (by decide)) (by decide) (hpxf)) (rc_F hF (Or.inl (by decide)) (by decide) (hy)) (by have q9 := hb pl (rc_F hF (Or.inl (by decide)) (by decide) (hpl)); unfold PIv at q9; omega)) (fun r36 T38 σ37 gt39 hp => ?_)
        obtain ⟨v45, rfl, rfl, w46, F47, f40, f41, f42, f43, f44⟩ := hp
        clear gt39
        show Tn _ _ 26 T σ37 [(0, .ref a), (1, .int (iI i1))] [.int (iI v45)] _
        refine tn_if_eq (tgt := 31) dX0_plainLine_26 (by decide) ⟨by omega, by omega⟩ (fun h48 => ?_) (fun h48 => ?_)
        · refine tn_iinc (q0 := 1) (L' := [(1, .int (iI (i1 + 1))), (0, .ref a)]) dX0_plainLine_31 rfl (by decide) rfl ?_
          refine tn_goto (tgt := 2) dX0_plainLine_34 (by decide) ?_
          exact tn_sub [1, 0] rfl (ih _ (by omega) (i1 + 1) σ37 w46 ((FrC.rfl.trans (FrC.sub hF (by decide))).trans (FrC.sub F47 (by decide))) (by omega) (hC.trans (CHX.sub f41 (by simp) (by simp) (by simp))) (PB.of (rc_F F47 (Or.inl (by decide)) (by decide) (rc_F hF (Or.inl (by decide)) (by decide) (hpl))) f42) (hfa.trans (FA.at hpl f44)) (hJ.st (by omega) hC (by omega) f43 (by omega)) (by omega) rfl)
        · exact tn_sub [0, 1] rfl (hx_29 (i1) σ37 w46 ((FrC.rfl.trans (FrC.sub hF (by decide))).trans (FrC.sub F47 (by decide))) (by omega) (hC.trans (CHX.sub f41 (by simp) (by simp) (by simp))) (PB.of (rc_F F47 (Or.inl (by decide)) (by decide) (rc_F hF (Or.inl (by decide)) (by decide) (hpl))) f42) (hfa.trans (FA.at hpl f44)) trivial trivial ⟨σ, hJ, hC, by omega, (by have z9 := f43; rw [show v45 = 1 by omega] at z9; exact z9)⟩ (by omega))
set_option maxHeartbeats 1000000 in
set_option maxRecDepth 20000 in
theorem k_X0_plainLine_j (d : Nat) {T : CT} {σ : MS} {a : Nat} {pl : Nat} {pxa : Nat} {pxb : Nat} {pxc : Nat} {pxd : Nat} {pxe : Nat} {pxf : Nat} {y : Nat} (ha : OB T a 0) (hw : WT T σ) (hpl : σ.2.1 1 a = (pl : Int)) (hpxa : σ.2.1 59 pl = (pxa : Int)) (hpxb : σ.2.1 60 pl = (pxb : Int)) (hpxc : σ.2.1 61 pl = (pxc : Int)) (hpxd : σ.2.1 62 pl = (pxd : Int)) (hpxe : σ.2.1 63 pl = (pxe : Int)) (hpxf : σ.2.1 64 pl = (pxf : Int)) (hy : σ.2.1 55 pl = (y : Int)) (hb : PB σ a) : Tn (d + 6) m_X0_plainLine 0 T σ [(0, .ref a)] [] (fun ro T2 σ2 => ∃ v : Int, ro = some (.int (iI v)) ∧ T = T2 ∧ WT T2 σ2 ∧ FrC T [56, 57, 58, 65, 66, 67, 68, 69, 515] σ σ2 ∧ (v = 0 ∨ v = 1) ∧ (CHX [(56, pl), (57, pl), (58, pl), (65, pl), (66, pl), (67, pl), (68, pl), (69, pl), (70, pl), (71, pl)] [pxa, pxb, pxc, pxd, pxe, pxf] [] σ σ2) ∧ (PB σ2 a) ∧ (FA (σ.2.1 1 a).toNat σ σ2) ∧ (JPL9 T σ pl pxa pxb pxc pxd pxe pxf y v σ2)) := by
  refine tn_iconst dX0_plainLine_0 ?_
  refine tn_istore_n (L' := [(1, .int (iI 0)), (0, .ref a)]) dX0_plainLine_1 rfl (by decide) rfl ?_
  refine tn_sub [1, 0] rfl (l_X0_plainLine_j_2 (d) (T := T) (σ0 := σ) (a := a) (pl := pl) (pxa := pxa) (pxb := pxb) (pxc := pxc) (pxd := pxd) (pxe := pxe) (pxf := pxf) (y := y) ha hw (hpl) (hpxa) (hpxb) (hpxc) (hpxd) (hpxe) (hpxf) (hy) (fun i11 σ2 w5 F6 r7 f8 f9 f10 f11 f12 f13 f14 => ?_) (fun i115 σ16 w19 F20 r21 f22 f23 f24 f25 f26 f27 f28 f29 => ?_) _ (0) σ hw FrC.rfl (by omega) CHX.rfl hb FA.rfl rfl (by omega) rfl)
  · show Tn _ _ 29 T σ2 [(0, .ref a), (1, .int (iI i11))] [] _
    refine tn_iconst dX0_plainLine_29 ?_
    exact tn_zret (v := 1) rfl (by decide) dX0_plainLine_30 ⟨_, rfl, rfl, w5, (FrC.rfl.trans (FrC.sub F6 (by decide))), by omega, (CHX.rfl.trans (CHX.sub f8 (by simp) (by simp) (by simp))), f9, f10, f13.elim (fun τ1 q => ⟨_, τ1, q.1, q.2.1, Or.inl ⟨rfl, q.2.2.1, by omega, q.2.2.2⟩⟩)⟩
  · show Tn _ _ 37 T σ16 [(0, .ref a), (1, .int (iI i115))] [] _
    refine tn_iconst dX0_plainLine_37 ?_
    exact tn_zret (v := 0) rfl (by decide) dX0_plainLine_38 ⟨_, rfl, rfl, w19, (FrC.rfl.trans (FrC.sub F20 (by decide))), by omega, (CHX.rfl.trans (CHX.sub f22 (by simp) (by simp) (by simp))), f23, f24, ⟨_, _, f27.1, f27.2, Or.inr ⟨rfl, rfl, by omega⟩⟩⟩
end
