set_option maxHeartbeats 4000000 in
set_option maxRecDepth 20000 in
theorem k_X5_register_f (d : Nat) {T : CT} {σ : MS} {a : Nat} {Sx : Int → Int} {nx jx : Nat} {cx : CS} {Nx : Int} (ha : OB T a 5) (hw : WT T σ) (hfx : RDX σ a Sx nx jx cx Nx) (hkd : ckd (tkS Sx jx) = 256) : Tn (d + 2) m_X5_register 0 T σ [(0, .ref a)] [] (fun ro T2 σ2 => ∃ v : Int, ro = some (.int (iI v)) ∧ T = T2 ∧ WT T2 σ2 ∧ FrC T [7, 43, 44, 521] σ σ2 ∧ (-2147483648 ≤ v ∧ v ≤ 2147483647) ∧ (RDX σ2 a Sx nx jx (uC cx (4, (tkS Sx jx).1, 0, (tkS Sx jx).2.2.2.2)) Nx)) := by
  have hSb := hfx.1.sb
  refine tn_aload_n dX5_register_0 rfl 0 rfl ?_
  refine tn_aload_n dX5_register_1 rfl 0 rfl ?_
  obtain ⟨x1, hx2, hk3⟩ : ∃ x : Nat, σ.2.1 33 a = (x : Int) ∧ (T x).1 = 39 := wf_33 hw ha
  have hk3o : OB T x1 9 := ⟨by omega, by rw [hk3]; rfl, by omega⟩
  refine tn_getR (ci := 5) (i := 0) (n := 33) (x := x1) dX5_register_2 rfl lay_5 (by decide) fl5_12 ha rfl rfl (hx2) ?_
  refine tn_getI (ci := 9) (i := 5) (n := 86) (t := σ.2.1 86 x1) dX5_register_5 rfl lay_9 (by decide) fl5_96 hk3o rfl rfl (rfl) ?_
  have g5 : ((-2147483648 : Int) ≤ σ.2.1 86 x1 ∧ σ.2.1 86 x1 ≤ 2147483647) := wf_86 hw hk3o
  have g5ky : NKY (tkS Sx jx) (σ.2.1 86 x1) := by rw [← show σ.2.1 86 x1 = σ.2.1 86 x1 from rfl]; exact (hfx).1.ky (hx2)
  refine tn_callV (M := m_X5_register) (pc := 8) (ix := 173) (ci := 5) (M' := m_X5_nameIndex) (As := [.int (iI (σ.2.1 86 x1))]) (rest := []) dX5_register_8 ok_X5_nameIndex im_X5_nameIndex se_X5_nameIndex ml5_173 np_X5_nameIndex rfl rfl ha rfl (Nat.le_of_ble_eq_true rfl) (Nat.le_of_ble_eq_true rfl) rfl (k_X5_nameIndex_f (d) (T := T) (σ := σ) (a := a) (k := σ.2.1 86 x1) ha (by omega) hw ) (fun r6 T8 σ7 gt9 hp => ?_)
  obtain ⟨v12, rfl, rfl, rfl, f10, f11⟩ := hp
  clear gt9
  have nf13k : KW (σ.2.1 86 x1) (tkS Sx jx).2.2.2.2 := g5ky.kw ((ck_nam (tkS_v hSb jx)).mp hkd).1
  have nf13 : v12 ≠ -1 ↔ fndC cx (tkS Sx jx).2.2.2.2 := NIQ.fd f11 hfx.2.1 hw ha nf13k
  show Tn _ _ 11 T σ [(0, .ref a)] [.int (iI v12)] _
  refine tn_istore_n (L' := [(1, .int (iI v12)), (0, .ref a)]) dX5_register_11 rfl (by decide) rfl ?_
  refine tn_iload_n dX5_register_12 rfl 0 rfl ?_
  refine tn_iconst dX5_register_13 ?_
  refine tn_icmp_eq (tgt := 19) dX5_register_14 (by decide) ⟨by omega, by omega⟩ ⟨by decide, by decide⟩ (fun h14 => ?_) (fun h14 => ?_)
  · obtain ⟨x15, hx16, hk17⟩ : ∃ x : Nat, σ.2.1 35 a = (x : Int) ∧ (T x).1 = 31 := wf_35 hw ha
    have hk17o : OB T x15 1 := ⟨by omega, by rw [hk17]; rfl, by omega⟩
    have g719 : σ.2.1 7 x15 = cx.nn := hfx.2.1.1 x15 hx16
    refine tn_aload_n dX5_register_19 rfl 1 rfl ?_
    refine tn_getR (ci := 5) (i := 2) (n := 35) (x := x15) dX5_register_20 rfl lay_5 (by decide) fl5_47 ha rfl rfl (hx16) ?_
    refine tn_getI (ci := 1) (i := 2) (n := 7) (t := σ.2.1 7 x15) dX5_register_23 rfl lay_1 (by decide) fl5_152 hk17o rfl rfl (rfl) ?_
    have g20 : ((0 : Int) ≤ σ.2.1 7 x15 ∧ σ.2.1 7 x15 ≤ 12) := wf_7 hw hk17o
    refine tn_bipush dX5_register_26 (by decide) ?_
    refine tn_icmp_lt (tgt := 45) dX5_register_28 (by decide) ⟨by omega, by omega⟩ ⟨by decide, by decide⟩ (fun h21 => ?_) (fun h21 => ?_)
    · refine tn_aload_n dX5_register_45 rfl 1 rfl ?_
      obtain ⟨x22, hx23, hk24, hl25⟩ : ∃ x : Nat, σ.2.1 48 a = (x : Int) ∧ AR T x 21 12 12 := wf_48 hw ha
      have hk24i : IA T x22 := by unfold IA; omega
      refine tn_getR (ci := 5) (i := 15) (n := 48) (x := x22) dX5_register_46 rfl lay_5 (by decide) fl5_40 ha rfl rfl (hx23) ?_
      refine tn_aload_n dX5_register_49 rfl 1 rfl ?_
      refine tn_getR (ci := 5) (i := 2) (n := 35) (x := x15) dX5_register_50 rfl lay_5 (by decide) fl5_47 ha rfl rfl (hx16) ?_
      refine tn_getI (ci := 1) (i := 2) (n := 7) (t := σ.2.1 7 x15) dX5_register_53 rfl lay_1 (by decide) fl5_152 hk17o rfl rfl (rfl) ?_
      refine tn_aload_n dX5_register_56 rfl 1 rfl ?_
      refine tn_getR (ci := 5) (i := 0) (n := 33) (x := x1) dX5_register_57 rfl lay_5 (by decide) fl5_12 ha rfl rfl (hx2) ?_
      refine tn_getI (ci := 9) (i := 5) (n := 86) (t := σ.2.1 86 x1) dX5_register_60 rfl lay_9 (by decide) fl5_96 hk3o rfl rfl (rfl) ?_
      refine tn_callSN (M := m_X5_register) (pc := 63) (ix := 129) (M' := m_X11_put) (As := [.ref x22, .int (iI (σ.2.1 7 x15)), .int (iI (σ.2.1 86 x1))]) (rest := []) dX5_register_63 ok_X11_put stt_X11_put nl5_129 np_X11_put rfl (Nat.le_of_ble_eq_true rfl) (Nat.le_of_ble_eq_true rfl) rfl (k_X11_put_21 (d) (T := T) (σ := σ) (x := x22) (i := σ.2.1 7 x15) (y := σ.2.1 86 x1) hk24i (by omega) hk24 (by omega) (by omega) hw ) (fun r26 T28 σ27 gt29 hp => ?_)
      obtain ⟨rfl, rfl, w32, F33, f30⟩ := hp
      clear gt29
      show Tn _ _ 66 T σ27 [(1, .int (iI v12)), (0, .ref a)] [] _
      refine tn_aload_n dX5_register_66 rfl 1 rfl ?_
      refine tn_getR (ci := 5) (i := 2) (n := 35) (x := x15) dX5_register_67 rfl lay_5 (by decide) fl5_47 ha rfl rfl (rc_F F33 (Or.inl (by decide)) (by decide) (hx16)) ?_
      refine tn_dup dX5_register_70 rfl ?_
      refine tn_getI (ci := 1) (i := 2) (n := 7) (t := σ.2.1 7 x15) dX5_register_71 rfl lay_1 (by decide) fl5_152 hk17o rfl rfl (rc_F F33 (Or.inl (by decide)) (by decide) (rfl)) ?_
      refine tn_iconst dX5_register_74 ?_
      refine tn_iadd dX5_register_75 ?_
      refine tn_putV (ci := 1) (i := 2) (n := 7) (r := false) (v := (σ.2.1 7 x15) + 1) tyX1 tyX1_ok nmX1 dX5_register_76 rfl lay_1 (by decide) fl5_152 rfl (tyX1_ok 2 (by decide)) rfl rfl rfl hk17o rfl rfl ?_
      refine tn_aload_n dX5_register_79 rfl 1 rfl ?_
      refine tn_getR (ci := 5) (i := 2) (n := 35) (x := x15) dX5_register_80 rfl lay_5 (by decide) fl5_47 ha rfl rfl (rc_o (by decide) (rc_F F33 (Or.inl (by decide)) (by decide) (hx16))) ?_
      refine tn_getI (ci := 1) (i := 2) (n := 7) (t := (σ.2.1 7 x15) + 1) dX5_register_83 rfl lay_1 (by decide) fl5_152 hk17o rfl rfl (ra_eq) ?_
      refine tn_iconst dX5_register_86 ?_
      refine tn_isub dX5_register_87 ?_
      have w34 := RDX.nw hfx hw ha hx23 hx16 nf13k F33 (by rw [f30, if_pos ⟨by omega, by omega⟩, g719])
      exact tn_iret rfl dX5_register_88 ⟨_, rfl, rfl, (w32.put (by decide) (by decide) (fo_7 (by omega))), ((FrC.rfl.trans (FrC.sub F33 (by decide))).put (by decide) (by decide)), by omega, RDX.cq (by rw [← g719] at w34; exact w34) (uC4w (fun q => absurd (nf13.mpr q) (by omega)) (by omega)).symm⟩
    · refine tn_aload_n dX5_register_31 rfl 1 rfl ?_
      refine tn_iconst dX5_register_32 ?_
      refine tn_aload_n dX5_register_33 rfl 1 rfl ?_
      refine tn_getR (ci := 5) (i := 0) (n := 33) (x := x1) dX5_register_34 rfl lay_5 (by decide) fl5_12 ha rfl rfl (hx2) ?_
      refine tn_getI (ci := 9) (i := 6) (n := 87) (t := σ.2.1 87 x1) dX5_register_37 rfl lay_9 (by decide) fl5_74 hk3o rfl rfl (rfl) ?_
      have g35 : ((-2147483648 : Int) ≤ σ.2.1 87 x1 ∧ σ.2.1 87 x1 ≤ 2147483647) := wf_87 hw hk3o
      have g35pl : σ.2.1 87 x1 = (tkS Sx jx).1 := (rfl).symm.trans ((hfx).1.pl (hx2))
      refine tn_callV (M := m_X5_register) (pc := 40) (ix := 113) (ci := 5) (M' := m_X5_note) (As := [.int (iI 5), .int (iI (σ.2.1 87 x1))]) (rest := []) dX5_register_40 ok_X5_note im_X5_note se_X5_note ml5_113 np_X5_note rfl rfl ha rfl (Nat.le_of_ble_eq_true rfl) (Nat.le_of_ble_eq_true rfl) rfl (k_X5_note_f (d) (T := T) (σ := σ) (a := a) (f := 5) (p := σ.2.1 87 x1) ha (by decide) (by omega) hw ) (fun r36 T38 σ37 gt39 hp => ?_)
      obtain ⟨rfl, rfl, w42, F43, f40⟩ := hp
      clear gt39
      have fx44 : RDX σ37 a Sx nx jx (fpC (cntN 5 (σ.2.1 87 x1) (cx).fp) (cx)) (Nx) := RDX.nt hfx hw ha F43 f40
      show Tn _ _ 43 T σ37 [(1, .int (iI v12)), (0, .ref a)] [] _
      refine tn_iconst dX5_register_43 ?_
      exact tn_iret rfl dX5_register_44 ⟨_, rfl, rfl, w42, (FrC.rfl.trans (FrC.sub F43 (by decide))), by omega, RDX.cq fx44 (by rw [g35pl]; exact (uC4n (fun q => absurd (nf13.mpr q) (by omega)) (by omega)).symm)⟩
  · refine tn_iload_n dX5_register_17 rfl 0 rfl ?_
    exact tn_iret rfl dX5_register_18 ⟨_, rfl, rfl, hw, FrC.rfl, by omega, RDX.cq hfx (uC4f (nf13.mp (by omega))).symm⟩
