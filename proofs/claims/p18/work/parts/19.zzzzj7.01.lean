section
set_option maxHeartbeats 1000000 in
set_option maxRecDepth 20000 in
theorem l_X0_together_jf_20 (d : Nat) {T : CT} {σ0 : MS} {a : Nat} {rx1 : Nat} {c2 : Int} {B0 : MS} {to : Nat} {pl : Nat} {txa : Nat} {txb : Nat} {txc : Nat} {txd : Nat} {txe : Nat} {txf : Nat} {pxa : Nat} {pxb : Nat} {pxc : Nat} {pxd : Nat} {pxe : Nat} {pxf : Nat} {y : Nat} {yy : Nat} {post : Option Value → CT → MS → Prop} (h_a : OB T a 0) (h_rx1 : OB T rx1 10) (r_c2 : -2147483648 ≤ c2 ∧ c2 ≤ 20000) (hw0 : WT T σ0) (hto : σ0.2.1 0 a = (to : Int)) (hpl : σ0.2.1 1 a = (pl : Int)) (htxa : σ0.2.1 59 to = (txa : Int)) (htxb : σ0.2.1 60 to = (txb : Int)) (htxc : σ0.2.1 61 to = (txc : Int)) (htxd : σ0.2.1 62 to = (txd : Int)) (htxe : σ0.2.1 63 to = (txe : Int)) (htxf : σ0.2.1 64 to = (txf : Int)) (hpxa : σ0.2.1 59 pl = (pxa : Int)) (hpxb : σ0.2.1 60 pl = (pxb : Int)) (hpxc : σ0.2.1 61 pl = (pxc : Int)) (hpxd : σ0.2.1 62 pl = (pxd : Int)) (hpxe : σ0.2.1 63 pl = (pxe : Int)) (hpxf : σ0.2.1 64 pl = (pxf : Int)) (hy : σ0.2.1 55 to = (y : Int)) (hyy : σ0.2.1 55 pl = (yy : Int)) (hx_69 : ∀ (i3 : Int) (i4 : Int) (σ : MS) , (WT T σ) → (FrC T [2, 3, 56, 57, 58, 65, 66, 67, 68, 69, 70, 71, 515] σ0 σ) → (0 ≤ i3 ∧ i3 ≤ 20000) → (0 ≤ i4 ∧ i4 ≤ 20000) → (CHX [(2, a), (3, a), (4, a), (56, to), (57, to), (58, to), (65, to), (66, to), (67, to), (68, to), (69, to), (70, to), (71, to), (56, pl), (57, pl), (58, pl), (65, pl), (66, pl), (67, pl), (68, pl), (69, pl), (70, pl), (71, pl)] [txa, txb, txc, txd, txe, txf, pxa, pxb, pxc, pxd, pxe, pxf] [] σ0 σ) → (TB σ a (i4 + 1)) → (PB σ a) → (F57 a σ0 σ) → (True) → (True) → (TG9 T B0 a to pl txa txb txc txd txe txf y pxa pxb pxc pxd pxe pxf yy c2 (-2 - i3)) → Tn (d + 7) m_X0_together 69 T σ [(0, .ref a), (1, .ref rx1), (2, .int (iI c2)), (3, .int (iI i3)), (4, .int (iI i4))] [] post) (hx_83 : ∀ (i3 : Int) (i4 : Int) (σ : MS) , (WT T σ) → (FrC T [2, 3, 56, 57, 58, 65, 66, 67, 68, 69, 70, 71, 515] σ0 σ) → (0 ≤ i3 ∧ i3 ≤ 20000) → (0 ≤ i4 ∧ i4 ≤ 20000) → (CHX [(2, a), (3, a), (4, a), (56, to), (57, to), (58, to), (65, to), (66, to), (67, to), (68, to), (69, to), (70, to), (71, to), (56, pl), (57, pl), (58, pl), (65, pl), (66, pl), (67, pl), (68, pl), (69, pl), (70, pl), (71, pl)] [txa, txb, txc, txd, txe, txf, pxa, pxb, pxc, pxd, pxe, pxf] [] σ0 σ) → (TB σ a (i4 + 1)) → (PB σ a) → (F57 a σ0 σ) → (True) → (True) → (TGC9 T B0 a to pl txa txb txc txd txe txf y pxa pxb pxc pxd pxe pxf yy i4.toNat i3 σ) → (0 ≤ i3 ∧ i3 ≤ i4 ∧ (i4 ≤ c2 ∨ i4 = 0)) → (¬ (i4 < c2 ∧ σ.2.1 56 to = 1)) → Tn (d + 7) m_X0_together 83 T σ [(0, .ref a), (1, .ref rx1), (2, .int (iI c2)), (3, .int (iI i3)), (4, .int (iI i4))] [] post) : ∀ (nq9 : Nat) (i3 : Int) (i4 : Int) (σ : MS) , (WT T σ) → (FrC T [2, 3, 56, 57, 58, 65, 66, 67, 68, 69, 70, 71, 515] σ0 σ) → (0 ≤ i3 ∧ i3 ≤ 20000) → (0 ≤ i4 ∧ i4 ≤ 20000) → (CHX [(2, a), (3, a), (4, a), (56, to), (57, to), (58, to), (65, to), (66, to), (67, to), (68, to), (69, to), (70, to), (71, to), (56, pl), (57, pl), (58, pl), (65, pl), (66, pl), (67, pl), (68, pl), (69, pl), (70, pl), (71, pl)] [txa, txb, txc, txd, txe, txf, pxa, pxb, pxc, pxd, pxe, pxf] [] σ0 σ) → (TB σ a i4) → (PB σ a) → (F57 a σ0 σ) → (TGC9 T B0 a to pl txa txb txc txd txe txf y pxa pxb pxc pxd pxe pxf yy i4.toNat i3 σ) → (0 ≤ i3 ∧ i3 ≤ i4 ∧ (i4 ≤ c2 ∨ i4 = 0)) → (2147483700 - i4).toNat = nq9 → Tn (d + 7) m_X0_together 20 T σ [(0, .ref a), (1, .ref rx1), (2, .int (iI c2)), (3, .int (iI i3)), (4, .int (iI i4))] [] post := by
  intro nq9
  induction nq9 using Nat.strongRecOn with
  | _ nq9 ih =>
    intro i3 i4 σ hw hF r_i3 r_i4 hC ht hb hf2 hT hal hm
    refine tn_iload dX0_together_20 4 rfl ?_
    refine tn_iload_n dX0_together_22 rfl 2 rfl ?_
    refine tn_icmp_ge (tgt := 83) dX0_together_23 (by decide) ⟨by omega, by omega⟩ ⟨by omega, by omega⟩ (fun h1 => ?_) (fun h1 => ?_)
    · exact tn_sub [0, 1, 2, 3, 4] rfl (hx_83 (i3) (i4) σ hw (FrC.rfl.trans (FrC.sub hF (by decide))) (by omega) (by omega) hC (ht.up (by omega)) hb hf2 trivial trivial hT hal (by omega))
    · refine tn_aload_n dX0_together_26 rfl 0 rfl ?_
      have hk4 : (T to).1 = 37 := ob_of (wf_0 hw0 h_a) hto
      have hk4o : OB T to 7 := ⟨by omega, by rw [hk4]; rfl, by omega⟩
      refine tn_getR (ci := 0) (i := 0) (n := 0) (x := to) dX0_together_27 rfl lay_0 (by decide) fl0_14 h_a rfl rfl (rc_F hF (Or.inl (by decide)) (by decide) (hto)) ?_
      refine tn_getI (ci := 7) (i := 1) (n := 56) (t := σ.2.1 56 to) dX0_together_30 rfl lay_7 (by decide) fl0_33 hk4o rfl rfl (rfl) ?_
      have g6 : ((-2147483648 : Int) ≤ σ.2.1 56 to ∧ σ.2.1 56 to ≤ 2147483647) := wf_56 hw hk4o
      refine tn_iconst dX0_together_33 ?_
      refine tn_icmp_ne (tgt := 83) dX0_together_34 (by decide) ⟨by omega, by omega⟩ ⟨by decide, by decide⟩ (fun h7 => ?_) (fun h7 => ?_)
      · exact tn_sub [0, 1, 2, 3, 4] rfl (hx_83 (i3) (i4) σ hw (FrC.rfl.trans (FrC.sub hF (by decide))) (by omega) (by omega) hC (ht.up (by omega)) hb hf2 trivial trivial hT hal (by omega))
      · refine tn_aload_n dX0_together_37 rfl 0 rfl ?_
        refine tn_getR (ci := 0) (i := 0) (n := 0) (x := to) dX0_together_38 rfl lay_0 (by decide) fl0_14 h_a rfl rfl (rc_F hF (Or.inl (by decide)) (by decide) (hto)) ?_
        obtain ⟨hk10, hl11⟩ : AR T txa 15 9 9 := ar_of (wf_59 hw0 hk4o) htxa
        have hk10i : IA T txa := by unfold IA; omega
        obtain ⟨hk14, hl15⟩ : AR T txb 1 9 9 := ar_of (wf_60 hw0 hk4o) htxb
        have hk14i : IA T txb := by unfold IA; omega
        obtain ⟨hl19, hk18a, hk18b⟩ := ex_at (wf_61 hw0 hk4o) htxc
        have hk18 : (T txc).1 = 1 := hk18b (by omega)
        clear hk18a hk18b
        have hk18i : IA T txc := by unfold IA; omega
        obtain ⟨hk22, hl23⟩ : AR T txd 1 108 108 := ar_of (wf_62 hw0 hk4o) htxd
        have hk22i : IA T txd := by unfold IA; omega
        obtain ⟨hk26, hl27⟩ : AR T txe 1 1728 1728 := ar_of (wf_63 hw0 hk4o) htxe
        have hk26i : IA T txe := by unfold IA; omega
        obtain ⟨hk30, hl31⟩ : AR T txf 1 200 200 := ar_of (wf_64 hw0 hk4o) htxf
        have hk30i : IA T txf := by unfold IA; omega
        obtain ⟨hl35, hk34a, hk34b⟩ := ex_at (wf_55 hw0 hk4o) hy
        have hk34i : (T y).1 = 4 ∨ (T y).1 = 5 := by omega
        have hk34c : RROW T to y := ⟨hk34a, hk34b⟩
        clear hk34a hk34b
        refine tn_callV (M := m_X0_together) (pc := 41) (ix := 36) (ci := 7) (M' := m_X7_step) (As := []) (rest := []) dX0_together_41 ok_X7_step im_X7_step se_X7_step ml0_36 np_X7_step rfl rfl hk4o rfl (Nat.le_of_ble_eq_true rfl) (Nat.le_of_ble_eq_true rfl) rfl (k_X7_step_j (d + 1) (T := T) (σ := σ) (a := to) (xa := txa) (xb := txb) (xc := txc) (xd := txd) (xe := txe) (xf := txf) (y := y) hk4o hk4 hw (rc_F hF (Or.inl (by decide)) (by decide) (htxa)) (rc_F hF (Or.inl (by decide)) (by decide) (htxb)) (rc_F hF (Or.inl (by decide)) (by decide) (htxc)) (rc_F hF (Or.inl (by decide)) (by decide) (htxd)) (rc_F hF (Or.inl (by decide)) (by decide) (htxe)) (rc_F hF (Or.inl (by decide)) (by decide) (htxf)) (rc_F hF (Or.inl (by decide)) (by decide) (hy)) (by have q9 := ht to (rc_F hF (Or.inl (by decide)) (by decide) (hto)); omega)) (fun r36 T38 σ37 gt39 hp => ?_)
        obtain ⟨v45, rfl, rfl, w46, F47, f40, f41, f42, f43, f44⟩ := hp
        clear gt39
        have hk50 : (T pl).1 = 57 := ob_of (wf_1 hw0 h_a) hpl
        have hk50o : OB T pl 7 := ⟨by omega, by rw [hk50]; rfl, by omega⟩
        have ne52 : to ≠ pl := fun e => by rw [e] at hk4; omega
        have hb53 : PB σ37 a := PB.torn hb (rc_F hF (Or.inl (by decide)) (by decide) (hpl)) ne52 f44 F47 (by decide)
        have ht54 : TB σ37 a (i4 + 1) := TB.of (rc_F F47 (Or.inl (by decide)) (by decide) (rc_F hF (Or.inl (by decide)) (by decide) (hto))) (by have q9 := ht to (rc_F hF (Or.inl (by decide)) (by decide) (hto)); omega)
        have f255 : F57 a σ0 σ37 := F57.fa hf2 (Or.inl hto) f44
        show Tn _ _ 44 T σ37 [(0, .ref a), (1, .ref rx1), (2, .int (iI c2)), (3, .int (iI i3)), (4, .int (iI i4))] [.int (iI v45)] _
        refine tn_if_eq (tgt := 77) dX0_together_44 (by decide) ⟨by omega, by omega⟩ (fun h56 => ?_) (fun h56 => ?_)
        · refine tn_iinc (q0 := 4) (L' := [(4, .int (iI (i4 + 1))), (0, .ref a), (1, .ref rx1), (2, .int (iI c2)), (3, .int (iI i3))]) dX0_together_77 rfl (by decide) rfl ?_
          refine tn_goto (tgt := 20) dX0_together_80 (by decide) ?_
          exact tn_sub [1, 2, 3, 4, 0] rfl (ih _ (by omega) (i3) (i4 + 1) σ37 w46 ((FrC.rfl.trans (FrC.sub hF (by decide))).trans (FrC.sub F47 (by decide))) (by omega) (by omega) (hC.trans (CHX.sub f41 (by simp) (by simp) (by simp))) ht54 hb53 f255 (hT.st (by omega) hw (by omega) f41 w46 f43 (Or.inl ⟨by omega, rfl, rfl⟩)) (by omega) rfl)
        · refine tn_aload_n dX0_together_47 rfl 0 rfl ?_
          obtain ⟨hk59, hl60⟩ : AR T pxa 15 9 9 := ar_of (wf_59 hw0 hk50o) hpxa
          have hk59i : IA T pxa := by unfold IA; omega
          obtain ⟨hk63, hl64⟩ : AR T pxb 1 9 9 := ar_of (wf_60 hw0 hk50o) hpxb
          have hk63i : IA T pxb := by unfold IA; omega
          obtain ⟨hl68, hk67a, hk67b⟩ := ex_at (wf_61 hw0 hk50o) hpxc
          have hk67 : (T pxc).1 = 14 := hk67a (by omega)
          clear hk67a hk67b
          have hk67i : IA T pxc := by unfold IA; omega
          obtain ⟨hk71, hl72⟩ : AR T pxd 1 108 108 := ar_of (wf_62 hw0 hk50o) hpxd
          have hk71i : IA T pxd := by unfold IA; omega
          obtain ⟨hk75, hl76⟩ : AR T pxe 1 1728 1728 := ar_of (wf_63 hw0 hk50o) hpxe
          have hk75i : IA T pxe := by unfold IA; omega
          obtain ⟨hk79, hl80⟩ : AR T pxf 1 200 200 := ar_of (wf_64 hw0 hk50o) hpxf
          have hk79i : IA T pxf := by unfold IA; omega
          obtain ⟨hl84, hk83a, hk83b⟩ := ex_at (wf_55 hw0 hk50o) hyy
          have hk83i : (T yy).1 = 4 ∨ (T yy).1 = 5 := by omega
          have hk83c : RROW T pl yy := ⟨hk83a, hk83b⟩
          clear hk83a hk83b
          refine tn_callV (M := m_X0_together) (pc := 48) (ix := 40) (ci := 0) (M' := m_X0_plainLine) (As := []) (rest := []) dX0_together_48 ok_X0_plainLine im_X0_plainLine se_X0_plainLine ml0_40 np_X0_plainLine rfl rfl h_a rfl (Nat.le_of_ble_eq_true rfl) (Nat.le_of_ble_eq_true rfl) rfl (k_X0_plainLine_j (d) (T := T) (σ := σ37) (a := a) (pl := pl) (pxa := pxa) (pxb := pxb) (pxc := pxc) (pxd := pxd) (pxe := pxe) (pxf := pxf) (y := yy) h_a w46 (rc_F F47 (Or.inl (by decide)) (by decide) (rc_F hF (Or.inl (by decide)) (by decide) (hpl))) (rc_F F47 (Or.inl (by decide)) (by decide) (rc_F hF (Or.inl (by decide)) (by decide) (hpxa))) (rc_F F47 (Or.inl (by decide)) (by decide) (rc_F hF (Or.inl (by decide)) (by decide) (hpxb))) (rc_F F47 (Or.inl (by decide)) (by decide) (rc_F hF (Or.inl (by decide)) (by decide) (hpxc))) (rc_F F47 (Or.inl (by decide)) (by decide) (rc_F hF (Or.inl (by decide)) (by decide) (hpxd))) (rc_F F47 (Or.inl (by decide)) (by decide) (rc_F hF (Or.inl (by decide)) (by decide) (hpxe))) (rc_F F47 (Or.inl (by decide)) (by decide) (rc_F hF (Or.inl (by decide)) (by decide) (hpxf))) (rc_F F47 (Or.inl (by decide)) (by decide) (rc_F hF (Or.inl (by decide)) (by decide) (hyy))) hb53) (fun r85 T87 σ86 gt88 hp => ?_)
          obtain ⟨v94, rfl, rfl, w95, F96, f89, f90, f91, f92, f93⟩ := hp
          clear gt88
          have ht98 : TB σ86 a (i4 + 1) := TB.plain ht54 (rc_F F47 (Or.inl (by decide)) (by decide) (rc_F hF (Or.inl (by decide)) (by decide) (hto))) (rc_F F47 (Or.inl (by decide)) (by decide) (rc_F hF (Or.inl (by decide)) (by decide) (hpl))) ne52 f92 F96 (by decide)
          have f297 : F57 a σ0 σ86 := F57.fa f255 (Or.inr hpl) (FA.to (rc_F F47 (Or.inl (by decide)) (by decide) (rc_F hF (Or.inl (by decide)) (by decide) (hpl))) f92)
          show Tn _ _ 51 T σ86 [(0, .ref a), (1, .ref rx1), (2, .int (iI c2)), (3, .int (iI i3)), (4, .int (iI i4))] [.int (iI v94)] _
          refine tn_if_eq (tgt := 69) dX0_together_51 (by decide) ⟨by omega, by omega⟩ (fun h99 => ?_) (fun h99 => ?_)
          · exact tn_sub [0, 1, 2, 3, 4] rfl (hx_69 (i3) (i4) σ86 w95 (((FrC.rfl.trans (FrC.sub hF (by decide))).trans (FrC.sub F47 (by decide))).trans (FrC.sub F96 (by decide))) (by omega) (by omega) ((hC.trans (CHX.sub f41 (by simp) (by simp) (by simp))).trans (CHX.sub f90 (by simp) (by simp) (by simp))) ht98 f91 f297 trivial trivial ⟨i4.toNat, i3, σ, hT, hw, (by omega), (by omega), Or.inl ⟨(by omega), (by omega), rfl, _, _, f41, w46, (by have z9 := f43; rw [show v45 = 1 by omega] at z9; exact z9), ⟨_, _, f90, w95, f93, Or.inl ⟨by omega, rfl, rfl⟩⟩⟩⟩)
          · refine tn_aload_n dX0_together_54 rfl 0 rfl ?_
            refine tn_callV (M := m_X0_together) (pc := 55) (ix := 43) (ci := 0) (M' := m_X0_samePrints) (As := []) (rest := []) dX0_together_55 ok_X0_samePrints im_X0_samePrints se_X0_samePrints ml0_43 np_X0_samePrints rfl rfl h_a rfl (Nat.le_of_ble_eq_true rfl) (Nat.le_of_ble_eq_true rfl) rfl (k_X0_samePrints_x (d + 5) (T := T) (σ := σ86) (a := a) (to := to) (pl := pl) h_a w95 (rc_F F96 (Or.inl (by decide)) (by decide) (rc_F F47 (Or.inl (by decide)) (by decide) (rc_F hF (Or.inl (by decide)) (by decide) (hto)))) (rc_F F96 (Or.inl (by decide)) (by decide) (rc_F F47 (Or.inl (by decide)) (by decide) (rc_F hF (Or.inl (by decide)) (by decide) (hpl))))) (fun r100 T102 σ101 gt103 hp => ?_)
            obtain ⟨v106, rfl, rfl, rfl, f104, f105⟩ := hp
            clear gt103
            show Tn _ _ 58 T σ86 [(0, .ref a), (1, .ref rx1), (2, .int (iI c2)), (3, .int (iI i3)), (4, .int (iI i4))] [.int (iI v106)] _
            refine tn_if_eq (tgt := 69) dX0_together_58 (by decide) ⟨by omega, by omega⟩ (fun h107 => ?_) (fun h107 => ?_)
            · exact tn_sub [0, 1, 2, 3, 4] rfl (hx_69 (i3) (i4) σ86 w95 (((FrC.rfl.trans (FrC.sub hF (by decide))).trans (FrC.sub F47 (by decide))).trans (FrC.sub F96 (by decide))) (by omega) (by omega) ((hC.trans (CHX.sub f41 (by simp) (by simp) (by simp))).trans (CHX.sub f90 (by simp) (by simp) (by simp))) ht98 f91 f297 trivial trivial ⟨i4.toNat, i3, σ, hT, hw, (by omega), (by omega), Or.inl ⟨(by omega), (by omega), rfl, _, _, f41, w46, (by have z9 := f43; rw [show v45 = 1 by omega] at z9; exact z9), ⟨_, _, f90, w95, f93, Or.inr ⟨by omega, Or.inl ⟨(by have z9 := f105; rw [show v106 = 0 by omega] at z9; exact z9), rfl, rfl⟩⟩⟩⟩⟩)
            · refine tn_aload_n dX0_together_61 rfl 0 rfl ?_
              refine tn_aload_n dX0_together_62 rfl 1 rfl ?_
              refine tn_callV (M := m_X0_together) (pc := 63) (ix := 46) (ci := 0) (M' := m_X0_sameStack) (As := [.ref rx1]) (rest := []) dX0_together_63 ok_X0_sameStack im_X0_sameStack se_X0_sameStack ml0_46 np_X0_sameStack rfl rfl h_a rfl (Nat.le_of_ble_eq_true rfl) (Nat.le_of_ble_eq_true rfl) rfl (k_X0_sameStack_x (d) (T := T) (σ := σ86) (a := a) (t := rx1) (to := to) (pl := pl) (txa := txa) (txb := txb) (txc := txc) (txd := txd) (txe := txe) (y := y) (pxa := pxa) (pxc := pxc) (pxd := pxd) (pxe := pxe) (yy := yy) h_a h_rx1 w95 (rc_F F96 (Or.inl (by decide)) (by decide) (rc_F F47 (Or.inl (by decide)) (by decide) (rc_F hF (Or.inl (by decide)) (by decide) (hto)))) (rc_F F96 (Or.inl (by decide)) (by decide) (rc_F F47 (Or.inl (by decide)) (by decide) (rc_F hF (Or.inl (by decide)) (by decide) (hpl)))) (rc_F F96 (Or.inl (by decide)) (by decide) (rc_F F47 (Or.inl (by decide)) (by decide) (rc_F hF (Or.inl (by decide)) (by decide) (htxa)))) (rc_F F96 (Or.inl (by decide)) (by decide) (rc_F F47 (Or.inl (by decide)) (by decide) (rc_F hF (Or.inl (by decide)) (by decide) (htxb)))) (rc_F F96 (Or.inl (by decide)) (by decide) (rc_F F47 (Or.inl (by decide)) (by decide) (rc_F hF (Or.inl (by decide)) (by decide) (htxc)))) (rc_F F96 (Or.inl (by decide)) (by decide) (rc_F F47 (Or.inl (by decide)) (by decide) (rc_F hF (Or.inl (by decide)) (by decide) (htxd)))) (rc_F F96 (Or.inl (by decide)) (by decide) (rc_F F47 (Or.inl (by decide)) (by decide) (rc_F hF (Or.inl (by decide)) (by decide) (htxe)))) (rc_F F96 (Or.inl (by decide)) (by decide) (rc_F F47 (Or.inl (by decide)) (by decide) (rc_F hF (Or.inl (by decide)) (by decide) (hy)))) (rc_F F96 (Or.inl (by decide)) (by decide) (rc_F F47 (Or.inl (by decide)) (by decide) (rc_F hF (Or.inl (by decide)) (by decide) (hpxa)))) (rc_F F96 (Or.inl (by decide)) (by decide) (rc_F F47 (Or.inl (by decide)) (by decide) (rc_F hF (Or.inl (by decide)) (by decide) (hpxc)))) (rc_F F96 (Or.inl (by decide)) (by decide) (rc_F F47 (Or.inl (by decide)) (by decide) (rc_F hF (Or.inl (by decide)) (by decide) (hpxd)))) (rc_F F96 (Or.inl (by decide)) (by decide) (rc_F F47 (Or.inl (by decide)) (by decide) (rc_F hF (Or.inl (by decide)) (by decide) (hpxe)))) (rc_F F96 (Or.inl (by decide)) (by decide) (rc_F F47 (Or.inl (by decide)) (by decide) (rc_F hF (Or.inl (by decide)) (by decide) (hyy))))) (fun r108 T110 σ109 gt111 hp => ?_)
              obtain ⟨v115, rfl, rfl, w116, F117, f112, f113, f114⟩ := hp
              clear gt111
              have hb118 : PB σ109 a := PB.frc f91 F117 (by decide) (by decide) (by decide) (by decide)
              have ht119 : TB σ109 a (i4 + 1) := TB.frc ht98 F117 (by decide) (by decide)
              have f2120 : F57 a σ0 σ109 := F57.frc f297 F117 (by decide)
              show Tn _ _ 66 T σ109 [(0, .ref a), (1, .ref rx1), (2, .int (iI c2)), (3, .int (iI i3)), (4, .int (iI i4))] [.int (iI v115)] _
              refine tn_if_ne (tgt := 74) dX0_together_66 (by decide) ⟨by omega, by omega⟩ (fun h121 => ?_) (fun h121 => ?_)
              · refine tn_iinc (q0 := 3) (L' := [(3, .int (iI (i3 + 1))), (0, .ref a), (1, .ref rx1), (2, .int (iI c2)), (4, .int (iI i4))]) dX0_together_74 rfl (by decide) rfl ?_
                refine tn_iinc (q0 := 4) (L' := [(4, .int (iI (i4 + 1))), (3, .int (iI (i3 + 1))), (0, .ref a), (1, .ref rx1), (2, .int (iI c2))]) dX0_together_77 rfl (by decide) rfl ?_
                refine tn_goto (tgt := 20) dX0_together_80 (by decide) ?_
                exact tn_sub [2, 3, 4, 1, 0] rfl (ih _ (by omega) (i3 + 1) (i4 + 1) σ109 w116 ((((FrC.rfl.trans (FrC.sub hF (by decide))).trans (FrC.sub F47 (by decide))).trans (FrC.sub F96 (by decide))).trans (FrC.sub F117 (by decide))) (by omega) (by omega) (((hC.trans (CHX.sub f41 (by simp) (by simp) (by simp))).trans (CHX.sub f90 (by simp) (by simp) (by simp))).trans (CHX.sub f113 (by simp) (by simp) (by simp))) ht119 hb118 f2120 (hT.st (by omega) hw (by omega) f41 w46 f43 (Or.inr ⟨by omega, rfl, ⟨_, _, f90, w95, f93, Or.inr ⟨by omega, Or.inr ⟨(by have z9 := f105; rw [show v106 = 1 by omega] at z9; exact z9), Or.inr rfl, (by have z9 := f114; rw [show v115 = 1 by omega] at z9; exact z9)⟩⟩⟩⟩)) (by omega) rfl)
              · exact tn_sub [0, 1, 2, 3, 4] rfl (hx_69 (i3) (i4) σ109 w116 ((((FrC.rfl.trans (FrC.sub hF (by decide))).trans (FrC.sub F47 (by decide))).trans (FrC.sub F96 (by decide))).trans (FrC.sub F117 (by decide))) (by omega) (by omega) (((hC.trans (CHX.sub f41 (by simp) (by simp) (by simp))).trans (CHX.sub f90 (by simp) (by simp) (by simp))).trans (CHX.sub f113 (by simp) (by simp) (by simp))) ht119 hb118 f2120 trivial trivial ⟨i4.toNat, i3, σ, hT, hw, (by omega), (by omega), Or.inl ⟨(by omega), (by omega), rfl, _, _, f41, w46, (by have z9 := f43; rw [show v45 = 1 by omega] at z9; exact z9), ⟨_, _, f90, w95, f93, Or.inr ⟨by omega, Or.inr ⟨(by have z9 := f105; rw [show v106 = 1 by omega] at z9; exact z9), Or.inl rfl, (by have z9 := f114; rw [show v115 = 0 by omega] at z9; exact z9)⟩⟩⟩⟩⟩)
set_option maxHeartbeats 1000000 in
set_option maxRecDepth 20000 in
theorem k_X0_together_jf (d : Nat) {T : CT} {σ : MS} {a : Nat} {t : Nat} {n : Int} {to : Nat} {pl : Nat} {txa : Nat} {txb : Nat} {txc : Nat} {txd : Nat} {txe : Nat} {txf : Nat} {pxa : Nat} {pxb : Nat} {pxc : Nat} {pxd : Nat} {pxe : Nat} {pxf : Nat} {y : Nat} {yy : Nat} (ha : OB T a 0) (h_t : OB T t 10) (h_n : -2147483648 ≤ n ∧ n ≤ 2147483647) (hw : WT T σ) (hto : σ.2.1 0 a = (to : Int)) (hpl : σ.2.1 1 a = (pl : Int)) (htxa : σ.2.1 59 to = (txa : Int)) (htxb : σ.2.1 60 to = (txb : Int)) (htxc : σ.2.1 61 to = (txc : Int)) (htxd : σ.2.1 62 to = (txd : Int)) (htxe : σ.2.1 63 to = (txe : Int)) (htxf : σ.2.1 64 to = (txf : Int)) (hpxa : σ.2.1 59 pl = (pxa : Int)) (hpxb : σ.2.1 60 pl = (pxb : Int)) (hpxc : σ.2.1 61 pl = (pxc : Int)) (hpxd : σ.2.1 62 pl = (pxd : Int)) (hpxe : σ.2.1 63 pl = (pxe : Int)) (hpxf : σ.2.1 64 pl = (pxf : Int)) (hy : σ.2.1 55 to = (y : Int)) (hyy : σ.2.1 55 pl = (yy : Int)) (hn : n ≤ 20000) (ht : TB σ a 0) (hb : PB σ a) : Tn (d + 7) m_X0_together 0 T σ [(0, .ref a), (1, .ref t), (2, .int (iI n))] [] (fun ro T2 σ2 => ∃ v : Int, ro = some (.int (iI v)) ∧ T = T2 ∧ WT T2 σ2 ∧ FrC T [2, 3, 4, 56, 57, 58, 65, 66, 67, 68, 69, 70, 71, 515] σ σ2 ∧ (-2147483648 ≤ v ∧ v ≤ 2147483647) ∧ (CHX [(2, a), (3, a), (4, a), (56, to), (57, to), (58, to), (65, to), (66, to), (67, to), (68, to), (69, to), (70, to), (71, to), (56, pl), (57, pl), (58, pl), (65, pl), (66, pl), (67, pl), (68, pl), (69, pl), (70, pl), (71, pl)] [txa, txb, txc, txd, txe, txf, pxa, pxb, pxc, pxd, pxe, pxf] [] σ σ2) ∧ (F57 a σ σ2) ∧ (∃ B0 : MS, CHX [(2, a), (3, a), (4, a)] [] [] σ B0 ∧ WT T B0 ∧ TG9 T B0 a to pl txa txb txc txd txe txf y pxa pxb pxc pxd pxe pxf yy n v)) := by
  refine tn_iconst dX0_together_0 ?_
  refine tn_istore_n (L' := [(3, .int (iI 0)), (0, .ref a), (1, .ref t), (2, .int (iI n))]) dX0_together_1 rfl (by decide) rfl ?_
  refine tn_aload_n dX0_together_2 rfl 1 rfl ?_
  refine tn_iconst dX0_together_3 ?_
  refine tn_putV (ci := 0) (i := 2) (n := 2) (r := false) (v := 0) tyX0 tyX0_ok nmX0 dX0_together_4 rfl lay_0 (by decide) fl0_23 rfl (tyX0_ok 2 (by decide)) rfl rfl rfl ha rfl rfl ?_
  refine tn_aload_n dX0_together_7 rfl 1 rfl ?_
  refine tn_iconst dX0_together_8 ?_
  refine tn_putV (ci := 0) (i := 3) (n := 3) (r := false) (v := 0) tyX0 tyX0_ok nmX0 dX0_together_9 rfl lay_0 (by decide) fl0_27 rfl (tyX0_ok 3 (by decide)) rfl rfl rfl ha rfl rfl ?_
  refine tn_aload_n dX0_together_12 rfl 1 rfl ?_
  refine tn_iconst dX0_together_13 ?_
  refine tn_putV (ci := 0) (i := 4) (n := 4) (r := false) (v := 0) tyX0 tyX0_ok nmX0 dX0_together_14 rfl lay_0 (by decide) fl0_30 rfl (tyX0_ok 4 (by decide)) rfl rfl rfl ha rfl rfl ?_
  refine tn_iconst dX0_together_17 ?_
  refine tn_istore (L' := [(4, .int (iI 0)), (3, .int (iI 0)), (0, .ref a), (1, .ref t), (2, .int (iI n))]) dX0_together_18 (by decide) rfl ?_
  refine tn_sub [2, 3, 4, 1, 0] rfl (l_X0_together_jf_20 (d) (T := T) (σ0 := (sA 4 a (0) (sA 3 a (0) (sA 2 a (0) σ)))) (a := a) (rx1 := t) (c2 := n) (to := to) (pl := pl) (txa := txa) (txb := txb) (txc := txc) (txd := txd) (txe := txe) (txf := txf) (pxa := pxa) (pxb := pxb) (pxc := pxc) (pxd := pxd) (pxe := pxe) (pxf := pxf) (y := y) (yy := yy) (B0 := ((sA 4 a (0) (sA 3 a (0) (sA 2 a (0) σ))))) ha h_t (by omega) (((hw.put (by decide) (by decide) (fo_2 (by omega))).put (by decide) (by decide) (fo_3 (by omega))).put (by decide) (by decide) (fo_4 (by omega))) (rc_o (by decide) (rc_o (by decide) (rc_o (by decide) (hto)))) (rc_o (by decide) (rc_o (by decide) (rc_o (by decide) (hpl)))) (rc_o (by decide) (rc_o (by decide) (rc_o (by decide) (htxa)))) (rc_o (by decide) (rc_o (by decide) (rc_o (by decide) (htxb)))) (rc_o (by decide) (rc_o (by decide) (rc_o (by decide) (htxc)))) (rc_o (by decide) (rc_o (by decide) (rc_o (by decide) (htxd)))) (rc_o (by decide) (rc_o (by decide) (rc_o (by decide) (htxe)))) (rc_o (by decide) (rc_o (by decide) (rc_o (by decide) (htxf)))) (rc_o (by decide) (rc_o (by decide) (rc_o (by decide) (hpxa)))) (rc_o (by decide) (rc_o (by decide) (rc_o (by decide) (hpxb)))) (rc_o (by decide) (rc_o (by decide) (rc_o (by decide) (hpxc)))) (rc_o (by decide) (rc_o (by decide) (rc_o (by decide) (hpxd)))) (rc_o (by decide) (rc_o (by decide) (rc_o (by decide) (hpxe)))) (rc_o (by decide) (rc_o (by decide) (rc_o (by decide) (hpxf)))) (rc_o (by decide) (rc_o (by decide) (rc_o (by decide) (hy)))) (rc_o (by decide) (rc_o (by decide) (rc_o (by decide) (hyy)))) (fun i31 i42 σ3 w6 F7 r8 r9 f10 f11 f12 f13 f14 f15 f16 => ?_) (fun i317 i418 σ19 w22 F23 r24 r25 f26 f27 f28 f29 f30 f31 f32 f33 f34 => ?_) _ (0) (0) (sA 4 a (0) (sA 3 a (0) (sA 2 a (0) σ))) (((hw.put (by decide) (by decide) (fo_2 (by omega))).put (by decide) (by decide) (fo_3 (by omega))).put (by decide) (by decide) (fo_4 (by omega))) FrC.rfl (by omega) (by omega) CHX.rfl (TB.frc ht (show FrC T [2, 3, 4] σ (sA 4 a (0) (sA 3 a (0) (sA 2 a (0) σ))) from (((FrC.rfl.put (by decide) (by decide)).put (by decide) (by decide)).put (by decide) (by decide))) (by decide) (by decide) ) (PB.frc hb (show FrC T [2, 3, 4] σ (sA 4 a (0) (sA 3 a (0) (sA 2 a (0) σ))) from (((FrC.rfl.put (by decide) (by decide)).put (by decide) (by decide)).put (by decide) (by decide))) (by decide) (by decide) (by decide) (by decide) ) F57.rfl ⟨rfl, rfl⟩ (by omega) rfl)
  · have f235 : F57 a σ σ3 := F57.pre (show FrC T [2, 3, 4] σ _ from (((FrC.rfl.put (by decide) (by decide)).put (by decide) (by decide)).put (by decide) (by decide))) (by decide) (by decide) (by decide) f13
    show Tn _ _ 69 T σ3 [(0, .ref a), (1, .ref t), (2, .int (iI n)), (3, .int (iI i31)), (4, .int (iI i42))] [] _
    refine tn_bipush dX0_together_69 (by decide) ?_
    refine tn_iload_n dX0_together_71 rfl 3 rfl ?_
    refine tn_isub dX0_together_72 ?_
    exact tn_iret rfl dX0_together_73 ⟨_, rfl, rfl, w6, ((((FrC.rfl.put (by decide) (by decide)).put (by decide) (by decide)).put (by decide) (by decide)).trans (FrC.sub F7 (by decide))), by omega, ((((CHX.rfl.fld (by simp) (by decide)).fld (by simp) (by decide)).fld (by simp) (by decide)).trans (CHX.sub f10 (by simp) (by simp) (by simp))), f235, ⟨_, ((CHX.rfl.fld (by simp) (by decide)).fld (by simp) (by decide)).fld (by simp) (by decide), (((hw.put (by decide) (by decide) (fo_2 (by omega))).put (by decide) (by decide) (fo_3 (by omega))).put (by decide) (by decide) (fo_4 (by omega))), f16⟩⟩
  · have f236 : F57 a σ σ19 := F57.pre (show FrC T [2, 3, 4] σ _ from (((FrC.rfl.put (by decide) (by decide)).put (by decide) (by decide)).put (by decide) (by decide))) (by decide) (by decide) (by decide) f29
    show Tn _ _ 83 T σ19 [(0, .ref a), (1, .ref t), (2, .int (iI n)), (3, .int (iI i317)), (4, .int (iI i418))] [] _
    refine tn_aload_n dX0_together_83 rfl 0 rfl ?_
    have hk39 : (T to).1 = 37 := ob_of (wf_0 hw ha) hto
    have hk39o : OB T to 7 := ⟨by omega, by rw [hk39]; rfl, by omega⟩
    refine tn_getR (ci := 0) (i := 0) (n := 0) (x := to) dX0_together_84 rfl lay_0 (by decide) fl0_14 ha rfl rfl (rc_F F23 (Or.inl (by decide)) (by decide) (rc_o (by decide) (rc_o (by decide) (rc_o (by decide) (hto))))) ?_
    refine tn_getI (ci := 7) (i := 1) (n := 56) (t := σ19.2.1 56 to) dX0_together_87 rfl lay_7 (by decide) fl0_33 hk39o rfl rfl (rfl) ?_
    have g41 : ((-2147483648 : Int) ≤ σ19.2.1 56 to ∧ σ19.2.1 56 to ≤ 2147483647) := wf_56 w22 hk39o
    refine tn_iconst dX0_together_90 ?_
    refine tn_icmp_ne (tgt := 96) dX0_together_91 (by decide) ⟨by omega, by omega⟩ ⟨by decide, by decide⟩ (fun h42 => ?_) (fun h42 => ?_)
    · refine tn_aload_n dX0_together_96 rfl 0 rfl ?_
      have hk45 : (T pl).1 = 57 := ob_of (wf_1 hw ha) hpl
      have hk45o : OB T pl 7 := ⟨by omega, by rw [hk45]; rfl, by omega⟩
      obtain ⟨hk49, hl50⟩ : AR T pxa 15 9 9 := ar_of (wf_59 hw hk45o) hpxa
      have hk49i : IA T pxa := by unfold IA; omega
      obtain ⟨hk53, hl54⟩ : AR T pxb 1 9 9 := ar_of (wf_60 hw hk45o) hpxb
      have hk53i : IA T pxb := by unfold IA; omega
      obtain ⟨hl58, hk57a, hk57b⟩ := ex_at (wf_61 hw hk45o) hpxc
      have hk57 : (T pxc).1 = 14 := hk57a (by omega)
      clear hk57a hk57b
      have hk57i : IA T pxc := by unfold IA; omega
      obtain ⟨hk61, hl62⟩ : AR T pxd 1 108 108 := ar_of (wf_62 hw hk45o) hpxd
      have hk61i : IA T pxd := by unfold IA; omega
      obtain ⟨hk65, hl66⟩ : AR T pxe 1 1728 1728 := ar_of (wf_63 hw hk45o) hpxe
      have hk65i : IA T pxe := by unfold IA; omega
      obtain ⟨hk69, hl70⟩ : AR T pxf 1 200 200 := ar_of (wf_64 hw hk45o) hpxf
      have hk69i : IA T pxf := by unfold IA; omega
      obtain ⟨hl74, hk73a, hk73b⟩ := ex_at (wf_55 hw hk45o) hyy
      have hk73i : (T yy).1 = 4 ∨ (T yy).1 = 5 := by omega
      have hk73c : RROW T pl yy := ⟨hk73a, hk73b⟩
      clear hk73a hk73b
      refine tn_callV (M := m_X0_together) (pc := 97) (ix := 40) (ci := 0) (M' := m_X0_plainLine) (As := []) (rest := []) dX0_together_97 ok_X0_plainLine im_X0_plainLine se_X0_plainLine ml0_40 np_X0_plainLine rfl rfl ha rfl (Nat.le_of_ble_eq_true rfl) (Nat.le_of_ble_eq_true rfl) rfl (k_X0_plainLine_j (d) (T := T) (σ := σ19) (a := a) (pl := pl) (pxa := pxa) (pxb := pxb) (pxc := pxc) (pxd := pxd) (pxe := pxe) (pxf := pxf) (y := yy) ha w22 (rc_F F23 (Or.inl (by decide)) (by decide) (rc_o (by decide) (rc_o (by decide) (rc_o (by decide) (hpl))))) (rc_F F23 (Or.inl (by decide)) (by decide) (rc_o (by decide) (rc_o (by decide) (rc_o (by decide) (hpxa))))) (rc_F F23 (Or.inl (by decide)) (by decide) (rc_o (by decide) (rc_o (by decide) (rc_o (by decide) (hpxb))))) (rc_F F23 (Or.inl (by decide)) (by decide) (rc_o (by decide) (rc_o (by decide) (rc_o (by decide) (hpxc))))) (rc_F F23 (Or.inl (by decide)) (by decide) (rc_o (by decide) (rc_o (by decide) (rc_o (by decide) (hpxd))))) (rc_F F23 (Or.inl (by decide)) (by decide) (rc_o (by decide) (rc_o (by decide) (rc_o (by decide) (hpxe))))) (rc_F F23 (Or.inl (by decide)) (by decide) (rc_o (by decide) (rc_o (by decide) (rc_o (by decide) (hpxf))))) (rc_F F23 (Or.inl (by decide)) (by decide) (rc_o (by decide) (rc_o (by decide) (rc_o (by decide) (hyy))))) f28) (fun r75 T77 σ76 gt78 hp => ?_)
      obtain ⟨v84, rfl, rfl, w85, F86, f79, f80, f81, f82, f83⟩ := hp
      clear gt78
      have f287 : F57 a σ σ76 := F57.fa f236 (Or.inr hpl) (FA.to (rc_F F23 (Or.inl (by decide)) (by decide) (rc_o (by decide) (rc_o (by decide) (rc_o (by decide) (hpl))))) f82)
      show Tn _ _ 100 T σ76 [(0, .ref a), (1, .ref t), (2, .int (iI n)), (3, .int (iI i317)), (4, .int (iI i418))] [.int (iI v84)] _
      refine tn_if_ne (tgt := 144) dX0_together_100 (by decide) ⟨by omega, by omega⟩ (fun h88 => ?_) (fun h88 => ?_)
      · refine tn_bipush dX0_together_144 (by decide) ?_
        refine tn_iload_n dX0_together_146 rfl 3 rfl ?_
        refine tn_isub dX0_together_147 ?_
        exact tn_iret rfl dX0_together_148 ⟨_, rfl, rfl, w85, (((((FrC.rfl.put (by decide) (by decide)).put (by decide) (by decide)).put (by decide) (by decide)).trans (FrC.sub F23 (by decide))).trans (FrC.sub F86 (by decide))), by omega, (((((CHX.rfl.fld (by simp) (by decide)).fld (by simp) (by decide)).fld (by simp) (by decide)).trans (CHX.sub f26 (by simp) (by simp) (by simp))).trans (CHX.sub f80 (by simp) (by simp) (by simp))), f287, ⟨_, ((CHX.rfl.fld (by simp) (by decide)).fld (by simp) (by decide)).fld (by simp) (by decide), (((hw.put (by decide) (by decide) (fo_2 (by omega))).put (by decide) (by decide) (fo_3 (by omega))).put (by decide) (by decide) (fo_4 (by omega))), ⟨_, _, σ19, f32, w22, (by omega), (by omega), Or.inr (Or.inr ⟨by omega, _, ⟨_, _, f80, w85, f83, Or.inr ⟨rfl, by first | exact Or.inl (by omega) | exact Or.inr (Or.inl (by omega)) | exact Or.inr (Or.inr (Or.inr (by omega)))⟩⟩, Or.inr ⟨rfl, rfl⟩⟩)⟩⟩⟩
      · refine tn_aload_n dX0_together_103 rfl 0 rfl ?_
        refine tn_getR (ci := 0) (i := 1) (n := 1) (x := pl) dX0_together_104 rfl lay_0 (by decide) fl0_20 ha rfl rfl (rc_F F86 (Or.inl (by decide)) (by decide) (rc_F F23 (Or.inl (by decide)) (by decide) (rc_o (by decide) (rc_o (by decide) (rc_o (by decide) (hpl)))))) ?_
        refine tn_getI (ci := 7) (i := 1) (n := 56) (t := σ76.2.1 56 pl) dX0_together_107 rfl lay_7 (by decide) fl0_33 hk45o rfl rfl (rfl) ?_
        have g89 : ((-2147483648 : Int) ≤ σ76.2.1 56 pl ∧ σ76.2.1 56 pl ≤ 2147483647) := wf_56 w85 hk45o
        refine tn_aload_n dX0_together_110 rfl 0 rfl ?_
        refine tn_getR (ci := 0) (i := 0) (n := 0) (x := to) dX0_together_111 rfl lay_0 (by decide) fl0_14 ha rfl rfl (rc_F F86 (Or.inl (by decide)) (by decide) (rc_F F23 (Or.inl (by decide)) (by decide) (rc_o (by decide) (rc_o (by decide) (rc_o (by decide) (hto)))))) ?_
        refine tn_getI (ci := 7) (i := 1) (n := 56) (t := σ76.2.1 56 to) dX0_together_114 rfl lay_7 (by decide) fl0_33 hk39o rfl rfl (rfl) ?_
        have g90 : ((-2147483648 : Int) ≤ σ76.2.1 56 to ∧ σ76.2.1 56 to ≤ 2147483647) := wf_56 w85 hk39o
        refine tn_icmp_ne (tgt := 144) dX0_together_117 (by decide) ⟨by omega, by omega⟩ ⟨by omega, by omega⟩ (fun h91 => ?_) (fun h91 => ?_)
        · refine tn_bipush dX0_together_144 (by decide) ?_
          refine tn_iload_n dX0_together_146 rfl 3 rfl ?_
          refine tn_isub dX0_together_147 ?_
          exact tn_iret rfl dX0_together_148 ⟨_, rfl, rfl, w85, (((((FrC.rfl.put (by decide) (by decide)).put (by decide) (by decide)).put (by decide) (by decide)).trans (FrC.sub F23 (by decide))).trans (FrC.sub F86 (by decide))), by omega, (((((CHX.rfl.fld (by simp) (by decide)).fld (by simp) (by decide)).fld (by simp) (by decide)).trans (CHX.sub f26 (by simp) (by simp) (by simp))).trans (CHX.sub f80 (by simp) (by simp) (by simp))), f287, ⟨_, ((CHX.rfl.fld (by simp) (by decide)).fld (by simp) (by decide)).fld (by simp) (by decide), (((hw.put (by decide) (by decide) (fo_2 (by omega))).put (by decide) (by decide) (fo_3 (by omega))).put (by decide) (by decide) (fo_4 (by omega))), ⟨_, _, σ19, f32, w22, (by omega), (by omega), Or.inr (Or.inr ⟨by omega, _, ⟨_, _, f80, w85, f83, Or.inr ⟨rfl, by first | exact Or.inl (by omega) | exact Or.inr (Or.inl (by omega)) | exact Or.inr (Or.inr (Or.inr (by omega)))⟩⟩, Or.inr ⟨rfl, rfl⟩⟩)⟩⟩⟩
        · refine tn_aload_n dX0_together_120 rfl 0 rfl ?_
          refine tn_callV (M := m_X0_together) (pc := 121) (ix := 43) (ci := 0) (M' := m_X0_samePrints) (As := []) (rest := []) dX0_together_121 ok_X0_samePrints im_X0_samePrints se_X0_samePrints ml0_43 np_X0_samePrints rfl rfl ha rfl (Nat.le_of_ble_eq_true rfl) (Nat.le_of_ble_eq_true rfl) rfl (k_X0_samePrints_x (d + 5) (T := T) (σ := σ76) (a := a) (to := to) (pl := pl) ha w85 (rc_F F86 (Or.inl (by decide)) (by decide) (rc_F F23 (Or.inl (by decide)) (by decide) (rc_o (by decide) (rc_o (by decide) (rc_o (by decide) (hto)))))) (rc_F F86 (Or.inl (by decide)) (by decide) (rc_F F23 (Or.inl (by decide)) (by decide) (rc_o (by decide) (rc_o (by decide) (rc_o (by decide) (hpl))))))) (fun r92 T94 σ93 gt95 hp => ?_)
          obtain ⟨v98, rfl, rfl, rfl, f96, f97⟩ := hp
          clear gt95
          show Tn _ _ 124 T σ76 [(0, .ref a), (1, .ref t), (2, .int (iI n)), (3, .int (iI i317)), (4, .int (iI i418))] [.int (iI v98)] _
          refine tn_if_eq (tgt := 144) dX0_together_124 (by decide) ⟨by omega, by omega⟩ (fun h99 => ?_) (fun h99 => ?_)
          · refine tn_bipush dX0_together_144 (by decide) ?_
            refine tn_iload_n dX0_together_146 rfl 3 rfl ?_
            refine tn_isub dX0_together_147 ?_
            exact tn_iret rfl dX0_together_148 ⟨_, rfl, rfl, w85, (((((FrC.rfl.put (by decide) (by decide)).put (by decide) (by decide)).put (by decide) (by decide)).trans (FrC.sub F23 (by decide))).trans (FrC.sub F86 (by decide))), by omega, (((((CHX.rfl.fld (by simp) (by decide)).fld (by simp) (by decide)).fld (by simp) (by decide)).trans (CHX.sub f26 (by simp) (by simp) (by simp))).trans (CHX.sub f80 (by simp) (by simp) (by simp))), f287, ⟨_, ((CHX.rfl.fld (by simp) (by decide)).fld (by simp) (by decide)).fld (by simp) (by decide), (((hw.put (by decide) (by decide) (fo_2 (by omega))).put (by decide) (by decide) (fo_3 (by omega))).put (by decide) (by decide) (fo_4 (by omega))), ⟨_, _, σ19, f32, w22, (by omega), (by omega), Or.inr (Or.inr ⟨by omega, _, ⟨_, _, f80, w85, f83, Or.inr ⟨rfl, by first | exact Or.inl (by omega) | exact Or.inr (Or.inl (by omega)) | exact Or.inr (Or.inr (Or.inl (by have z9 := f97; rw [show v98 = 0 by omega] at z9; exact z9))) | exact Or.inr (Or.inr (Or.inr (by omega)))⟩⟩, Or.inr ⟨rfl, rfl⟩⟩)⟩⟩⟩
          · refine tn_aload_n dX0_together_127 rfl 0 rfl ?_
            refine tn_getR (ci := 0) (i := 1) (n := 1) (x := pl) dX0_together_128 rfl lay_0 (by decide) fl0_20 ha rfl rfl (rc_F F86 (Or.inl (by decide)) (by decide) (rc_F F23 (Or.inl (by decide)) (by decide) (rc_o (by decide) (rc_o (by decide) (rc_o (by decide) (hpl)))))) ?_
            refine tn_getI (ci := 7) (i := 13) (n := 68) (t := σ76.2.1 68 pl) dX0_together_131 rfl lay_7 (by decide) fl0_50 hk45o rfl rfl (rfl) ?_
            have g100 : ((-2147483648 : Int) ≤ σ76.2.1 68 pl ∧ σ76.2.1 68 pl ≤ 2147483647) := wf_68 w85 hk45o
            refine tn_aload_n dX0_together_134 rfl 0 rfl ?_
            refine tn_getR (ci := 0) (i := 0) (n := 0) (x := to) dX0_together_135 rfl lay_0 (by decide) fl0_14 ha rfl rfl (rc_F F86 (Or.inl (by decide)) (by decide) (rc_F F23 (Or.inl (by decide)) (by decide) (rc_o (by decide) (rc_o (by decide) (rc_o (by decide) (hto)))))) ?_
            refine tn_getI (ci := 7) (i := 13) (n := 68) (t := σ76.2.1 68 to) dX0_together_138 rfl lay_7 (by decide) fl0_50 hk39o rfl rfl (rfl) ?_
            have g101 : ((-2147483648 : Int) ≤ σ76.2.1 68 to ∧ σ76.2.1 68 to ≤ 2147483647) := wf_68 w85 hk39o
            refine tn_icmp_eq (tgt := 149) dX0_together_141 (by decide) ⟨by omega, by omega⟩ ⟨by omega, by omega⟩ (fun h102 => ?_) (fun h102 => ?_)
            · refine tn_aload_n dX0_together_149 rfl 0 rfl ?_
              refine tn_aload_n dX0_together_150 rfl 0 rfl ?_
              refine tn_getR (ci := 0) (i := 0) (n := 0) (x := to) dX0_together_151 rfl lay_0 (by decide) fl0_14 ha rfl rfl (rc_F F86 (Or.inl (by decide)) (by decide) (rc_F F23 (Or.inl (by decide)) (by decide) (rc_o (by decide) (rc_o (by decide) (rc_o (by decide) (hto)))))) ?_
              refine tn_getI (ci := 7) (i := 1) (n := 56) (t := σ76.2.1 56 to) dX0_together_154 rfl lay_7 (by decide) fl0_33 hk39o rfl rfl (rfl) ?_
              refine tn_iconst dX0_together_157 ?_
              refine tn_icmp_ne (tgt := 165) dX0_together_158 (by decide) ⟨by omega, by omega⟩ ⟨by decide, by decide⟩ (fun h103 => ?_) (fun h103 => ?_)
              · refine tn_iconst dX0_together_165 ?_
                refine tn_putV (ci := 0) (i := 4) (n := 4) (r := false) (v := 2) tyX0 tyX0_ok nmX0 dX0_together_166 rfl lay_0 (by decide) fl0_30 rfl (tyX0_ok 4 (by decide)) rfl rfl rfl ha rfl rfl ?_
                refine tn_iload_n dX0_together_169 rfl 3 rfl ?_
                exact tn_iret rfl dX0_together_170 ⟨_, rfl, rfl, (w85.put (by decide) (by decide) (fo_4 (by omega))), ((((((FrC.rfl.put (by decide) (by decide)).put (by decide) (by decide)).put (by decide) (by decide)).trans (FrC.sub F23 (by decide))).trans (FrC.sub F86 (by decide))).put (by decide) (by decide)), by omega, ((((((CHX.rfl.fld (by simp) (by decide)).fld (by simp) (by decide)).fld (by simp) (by decide)).trans (CHX.sub f26 (by simp) (by simp) (by simp))).trans (CHX.sub f80 (by simp) (by simp) (by simp))).fld (by simp) (by decide)), (f287.put (by decide)), ⟨_, ((CHX.rfl.fld (by simp) (by decide)).fld (by simp) (by decide)).fld (by simp) (by decide), (((hw.put (by decide) (by decide) (fo_2 (by omega))).put (by decide) (by decide) (fo_3 (by omega))).put (by decide) (by decide) (fo_4 (by omega))), ⟨_, _, σ19, f32, w22, (by omega), (by omega), Or.inr (Or.inr ⟨by omega, _, ⟨_, _, f80, w85, f83, Or.inl ⟨rfl, by omega, by omega, (by have z9 := f97; rw [show v98 = 1 by omega] at z9; exact z9), by omega⟩⟩, Or.inl ⟨rfl, rfl⟩⟩)⟩⟩⟩
              · refine tn_iconst dX0_together_161 ?_
                refine tn_goto (tgt := 166) dX0_together_162 (by decide) ?_
                refine tn_putV (ci := 0) (i := 4) (n := 4) (r := false) (v := 1) tyX0 tyX0_ok nmX0 dX0_together_166 rfl lay_0 (by decide) fl0_30 rfl (tyX0_ok 4 (by decide)) rfl rfl rfl ha rfl rfl ?_
                refine tn_iload_n dX0_together_169 rfl 3 rfl ?_
                exact tn_iret rfl dX0_together_170 ⟨_, rfl, rfl, (w85.put (by decide) (by decide) (fo_4 (by omega))), ((((((FrC.rfl.put (by decide) (by decide)).put (by decide) (by decide)).put (by decide) (by decide)).trans (FrC.sub F23 (by decide))).trans (FrC.sub F86 (by decide))).put (by decide) (by decide)), by omega, ((((((CHX.rfl.fld (by simp) (by decide)).fld (by simp) (by decide)).fld (by simp) (by decide)).trans (CHX.sub f26 (by simp) (by simp) (by simp))).trans (CHX.sub f80 (by simp) (by simp) (by simp))).fld (by simp) (by decide)), (f287.put (by decide)), ⟨_, ((CHX.rfl.fld (by simp) (by decide)).fld (by simp) (by decide)).fld (by simp) (by decide), (((hw.put (by decide) (by decide) (fo_2 (by omega))).put (by decide) (by decide) (fo_3 (by omega))).put (by decide) (by decide) (fo_4 (by omega))), ⟨_, _, σ19, f32, w22, (by omega), (by omega), Or.inr (Or.inr ⟨by omega, _, ⟨_, _, f80, w85, f83, Or.inl ⟨rfl, by omega, by omega, (by have z9 := f97; rw [show v98 = 1 by omega] at z9; exact z9), by omega⟩⟩, Or.inl ⟨rfl, rfl⟩⟩)⟩⟩⟩
            · refine tn_bipush dX0_together_144 (by decide) ?_
              refine tn_iload_n dX0_together_146 rfl 3 rfl ?_
              refine tn_isub dX0_together_147 ?_
              exact tn_iret rfl dX0_together_148 ⟨_, rfl, rfl, w85, (((((FrC.rfl.put (by decide) (by decide)).put (by decide) (by decide)).put (by decide) (by decide)).trans (FrC.sub F23 (by decide))).trans (FrC.sub F86 (by decide))), by omega, (((((CHX.rfl.fld (by simp) (by decide)).fld (by simp) (by decide)).fld (by simp) (by decide)).trans (CHX.sub f26 (by simp) (by simp) (by simp))).trans (CHX.sub f80 (by simp) (by simp) (by simp))), f287, ⟨_, ((CHX.rfl.fld (by simp) (by decide)).fld (by simp) (by decide)).fld (by simp) (by decide), (((hw.put (by decide) (by decide) (fo_2 (by omega))).put (by decide) (by decide) (fo_3 (by omega))).put (by decide) (by decide) (fo_4 (by omega))), ⟨_, _, σ19, f32, w22, (by omega), (by omega), Or.inr (Or.inr ⟨by omega, _, ⟨_, _, f80, w85, f83, Or.inr ⟨rfl, by first | exact Or.inl (by omega) | exact Or.inr (Or.inl (by omega)) | exact Or.inr (Or.inr (Or.inl (by have z9 := f97; rw [show v98 = 0 by omega] at z9; exact z9))) | exact Or.inr (Or.inr (Or.inr (by omega)))⟩⟩, Or.inr ⟨rfl, rfl⟩⟩)⟩⟩⟩
    · refine tn_iload_n dX0_together_94 rfl 3 rfl ?_
      exact tn_iret rfl dX0_together_95 ⟨_, rfl, rfl, w22, ((((FrC.rfl.put (by decide) (by decide)).put (by decide) (by decide)).put (by decide) (by decide)).trans (FrC.sub F23 (by decide))), by omega, ((((CHX.rfl.fld (by simp) (by decide)).fld (by simp) (by decide)).fld (by simp) (by decide)).trans (CHX.sub f26 (by simp) (by simp) (by simp))), f236, ⟨_, ((CHX.rfl.fld (by simp) (by decide)).fld (by simp) (by decide)).fld (by simp) (by decide), (((hw.put (by decide) (by decide) (fo_2 (by omega))).put (by decide) (by decide) (fo_3 (by omega))).put (by decide) (by decide) (fo_4 (by omega))), ⟨_, _, σ19, f32, w22, (by omega), (by omega), Or.inr (Or.inl ⟨by omega, by omega, rfl⟩)⟩⟩⟩
end
