set_option maxHeartbeats 4000000 in
set_option maxRecDepth 20000 in
theorem k_X5_parameter_f (d : Nat) {T : CT} {σ : MS} {a : Nat} {c : Int} {Sx : Int → Int} {nx jx : Nat} {cx : CS} {Nx : Int} (ha : OB T a 5) (h_c : -2147483648 ≤ c ∧ c ≤ 2147483647) (hw : WT T σ) (hc : 1 ≤ c) (hfx : RDX σ a Sx nx jx cx Nx) (hkd : ckd (tkS Sx jx) = 256) (hrn : 1 ≤ cx.rn ∧ cx.rn ≤ 256) : Tn (d + 3) m_X5_parameter 0 T σ [(0, .ref a), (1, .int (iI c))] [] (fun ro T2 σ2 => ro = none ∧ T = T2 ∧ WT T2 σ2 ∧ FrC T [7, 8, 43, 44, 517, 521] σ σ2 ∧ (RDX σ2 a Sx nx jx (uC cx (3, (tkS Sx jx).1, c - 1, (tkS Sx jx).2.2.2.2)) Nx)) := by
  have hSb := hfx.1.sb
  have e38 : σ.2.1 38 a = cx.rn := hfx.1.2.1.1.2.2.1
  refine tn_aload_n dX5_parameter_0 rfl 0 rfl ?_
  refine tn_aload_n dX5_parameter_1 rfl 0 rfl ?_
  obtain ⟨x1, hx2, hk3⟩ : ∃ x : Nat, σ.2.1 33 a = (x : Int) ∧ (T x).1 = 39 := wf_33 hw ha
  have hk3o : OB T x1 9 := ⟨by omega, by rw [hk3]; rfl, by omega⟩
  refine tn_getR (ci := 5) (i := 0) (n := 33) (x := x1) dX5_parameter_2 rfl lay_5 (by decide) fl5_12 ha rfl rfl (hx2) ?_
  refine tn_getI (ci := 9) (i := 5) (n := 86) (t := σ.2.1 86 x1) dX5_parameter_5 rfl lay_9 (by decide) fl5_96 hk3o rfl rfl (rfl) ?_
  have g5 : ((-2147483648 : Int) ≤ σ.2.1 86 x1 ∧ σ.2.1 86 x1 ≤ 2147483647) := wf_86 hw hk3o
  have g5ky : NKY (tkS Sx jx) (σ.2.1 86 x1) := by rw [← show σ.2.1 86 x1 = σ.2.1 86 x1 from rfl]; exact (hfx).1.ky (hx2)
  refine tn_callV (M := m_X5_parameter) (pc := 8) (ix := 173) (ci := 5) (M' := m_X5_nameIndex) (As := [.int (iI (σ.2.1 86 x1))]) (rest := []) dX5_parameter_8 ok_X5_nameIndex im_X5_nameIndex se_X5_nameIndex ml5_173 np_X5_nameIndex rfl rfl ha rfl (Nat.le_of_ble_eq_true rfl) (Nat.le_of_ble_eq_true rfl) rfl (k_X5_nameIndex_f (d + 1) (T := T) (σ := σ) (a := a) (k := σ.2.1 86 x1) ha (by omega) hw ) (fun r6 T8 σ7 gt9 hp => ?_)
  obtain ⟨v12, rfl, rfl, rfl, f10, f11⟩ := hp
  clear gt9
  have nf13k : KW (σ.2.1 86 x1) (tkS Sx jx).2.2.2.2 := g5ky.kw ((ck_nam (tkS_v hSb jx)).mp hkd).1
  have nf13 : v12 ≠ -1 ↔ fndC cx (tkS Sx jx).2.2.2.2 := NIQ.fd f11 hfx.2.1 hw ha nf13k
  show Tn _ _ 11 T σ [(0, .ref a), (1, .int (iI c))] [.int (iI v12)] _
  refine tn_iconst dX5_parameter_11 ?_
  refine tn_icmp_eq (tgt := 27) dX5_parameter_12 (by decide) ⟨by omega, by omega⟩ ⟨by decide, by decide⟩ (fun h14 => ?_) (fun h14 => ?_)
  · refine tn_iload_n dX5_parameter_27 rfl 1 rfl ?_
    refine tn_iconst dX5_parameter_28 ?_
    refine tn_icmp_le (tgt := 44) dX5_parameter_29 (by decide) ⟨by omega, by omega⟩ ⟨by decide, by decide⟩ (fun h15 => ?_) (fun h15 => ?_)
    · refine tn_aload_n dX5_parameter_44 rfl 0 rfl ?_
      refine tn_callV (M := m_X5_parameter) (pc := 45) (ix := 176) (ci := 5) (M' := m_X5_register) (As := []) (rest := []) dX5_parameter_45 ok_X5_register im_X5_register se_X5_register ml5_176 np_X5_register rfl rfl ha rfl (Nat.le_of_ble_eq_true rfl) (Nat.le_of_ble_eq_true rfl) rfl (k_X5_register_f (d) (T := T) (σ := σ) (a := a) ha hw hfx hkd) (fun r16 T18 σ17 gt19 hp => ?_)
      obtain ⟨v22, rfl, rfl, w23, F24, f20, f21⟩ := hp
      clear gt19
      show Tn _ _ 48 T σ17 [(0, .ref a), (1, .int (iI c))] [.int (iI v22)] _
      refine tn_pop dX5_parameter_48 rfl ?_
      refine tn_aload_n dX5_parameter_49 rfl 0 rfl ?_
      obtain ⟨x25, hx26, hk27, hl28⟩ : ∃ x : Nat, σ.2.1 37 a = (x : Int) ∧ AR T x 17 256 256 := wf_37 hw ha
      have hk27i : IA T x25 := by unfold IA; omega
      refine tn_getR (ci := 5) (i := 4) (n := 37) (x := x25) dX5_parameter_50 rfl lay_5 (by decide) fl5_28 ha rfl rfl (rc_F F24 (Or.inl (by decide)) (by decide) (hx26)) ?_
      refine tn_aload_n dX5_parameter_53 rfl 0 rfl ?_
      refine tn_getI (ci := 5) (i := 5) (n := 38) (t := σ.2.1 38 a) dX5_parameter_54 rfl lay_5 (by decide) fl5_58 ha rfl rfl (rc_F F24 (Or.inl (by decide)) (by decide) (rfl)) ?_
      have g29 : ((0 : Int) ≤ σ.2.1 38 a ∧ σ.2.1 38 a ≤ 256) := wf_38 hw ha
      refine tn_iconst dX5_parameter_57 ?_
      refine tn_isub dX5_parameter_58 ?_
      refine tn_iload_n dX5_parameter_59 rfl 1 rfl ?_
      refine tn_callSN (M := m_X5_parameter) (pc := 60) (ix := 129) (M' := m_X11_put) (As := [.ref x25, .int (iI ((σ.2.1 38 a) - 1)), .int (iI c)]) (rest := []) dX5_parameter_60 ok_X11_put stt_X11_put nl5_129 np_X11_put rfl (Nat.le_of_ble_eq_true rfl) (Nat.le_of_ble_eq_true rfl) rfl (k_X11_put_17 (d + 1) (T := T) (σ := σ17) (x := x25) (i := (σ.2.1 38 a) - 1) (y := c) hk27i (by omega) hk27 (by omega) (by omega) w23 ) (fun r30 T32 σ31 gt33 hp => ?_)
      obtain ⟨rfl, rfl, w36, F37, f34⟩ := hp
      clear gt33
      have fx38e : σ.2.1 38 a = (uC (cx) (4, (tkS Sx jx).1, 0, (tkS Sx jx).2.2.2.2)).rn := (rc_F F24 (Or.inl (by decide)) (by decide) (rfl)).symm.trans (f21).1.2.1.1.2.2.1
      have fx38 : RDX σ31 a Sx nx jx (rpC (c) (uC (cx) (4, (tkS Sx jx).1, 0, (tkS Sx jx).2.2.2.2))) (Nx) := RDX.rp f21 w23 ha (rc_F F24 (Or.inl (by decide)) (by decide) (hx26)) F37 (by rw [f34, if_pos ⟨by omega, by omega⟩, fx38e])
      show Tn _ _ 63 T σ31 [(0, .ref a), (1, .int (iI c))] [] _
      refine tn_aload_n dX5_parameter_63 rfl 0 rfl ?_
      obtain ⟨x39, hx40, hk41⟩ : ∃ x : Nat, σ.2.1 35 a = (x : Int) ∧ (T x).1 = 31 := wf_35 hw ha
      have hk41o : OB T x39 1 := ⟨by omega, by rw [hk41]; rfl, by omega⟩
      refine tn_getR (ci := 5) (i := 2) (n := 35) (x := x39) dX5_parameter_64 rfl lay_5 (by decide) fl5_47 ha rfl rfl (rc_F F37 (Or.inl (by decide)) (by decide) (rc_F F24 (Or.inl (by decide)) (by decide) (hx40))) ?_
      refine tn_iload_n dX5_parameter_67 rfl 1 rfl ?_
      refine tn_iconst dX5_parameter_68 ?_
      refine tn_mmin (x := c) (y := 4) dX5_parameter_69 mlm5_117 stM_min iniM cdM_min (by omega) (Nat.le_of_ble_eq_true rfl) ⟨by omega, by omega⟩ ⟨by omega, by omega⟩ (fun z43 g44 => ?_)
      refine tn_putV (ci := 1) (i := 3) (n := 8) (r := false) (v := z43) tyX1 tyX1_ok nmX1 dX5_parameter_72 rfl lay_1 (by decide) fl5_180 rfl (tyX1_ok 3 (by decide)) rfl rfl rfl hk41o rfl rfl ?_
      exact tn_vret rfl dX5_parameter_75 ⟨rfl, rfl, (w36.put (by decide) (by decide) (fo_8 (by omega))), (((FrC.rfl.trans (FrC.sub F24 (by decide))).trans (FrC.sub F37 (by decide))).put (by decide) (by decide)), RDX.cq (fx38.pt (by decide) (by decide)) (by rw [uC3c]; unfold ifN; rw [ifP_f (show ¬ 4 ≤ c - 1 by omega), ifP_f (fun q => absurd (nf13.mpr q) (by omega)), show (c - 1 + 1 : Int) = c by omega])⟩
    · refine tn_aload_n dX5_parameter_32 rfl 0 rfl ?_
      refine tn_iconst dX5_parameter_33 ?_
      refine tn_aload_n dX5_parameter_34 rfl 0 rfl ?_
      refine tn_getR (ci := 5) (i := 0) (n := 33) (x := x1) dX5_parameter_35 rfl lay_5 (by decide) fl5_12 ha rfl rfl (hx2) ?_
      refine tn_getI (ci := 9) (i := 6) (n := 87) (t := σ.2.1 87 x1) dX5_parameter_38 rfl lay_9 (by decide) fl5_74 hk3o rfl rfl (rfl) ?_
      have g45 : ((-2147483648 : Int) ≤ σ.2.1 87 x1 ∧ σ.2.1 87 x1 ≤ 2147483647) := wf_87 hw hk3o
      have g45pl : σ.2.1 87 x1 = (tkS Sx jx).1 := (rfl).symm.trans ((hfx).1.pl (hx2))
      refine tn_callV (M := m_X5_parameter) (pc := 41) (ix := 113) (ci := 5) (M' := m_X5_note) (As := [.int (iI 5), .int (iI (σ.2.1 87 x1))]) (rest := []) dX5_parameter_41 ok_X5_note im_X5_note se_X5_note ml5_113 np_X5_note rfl rfl ha rfl (Nat.le_of_ble_eq_true rfl) (Nat.le_of_ble_eq_true rfl) rfl (k_X5_note_f (d + 1) (T := T) (σ := σ) (a := a) (f := 5) (p := σ.2.1 87 x1) ha (by decide) (by omega) hw ) (fun r46 T48 σ47 gt49 hp => ?_)
      obtain ⟨rfl, rfl, w52, F53, f50⟩ := hp
      clear gt49
      have fx54 : RDX σ47 a Sx nx jx (fpC (cntN 5 (σ.2.1 87 x1) (cx).fp) (cx)) (Nx) := RDX.nt hfx hw ha F53 f50
      show Tn _ _ 44 T σ47 [(0, .ref a), (1, .int (iI c))] [] _
      refine tn_aload_n dX5_parameter_44 rfl 0 rfl ?_
      refine tn_callV (M := m_X5_parameter) (pc := 45) (ix := 176) (ci := 5) (M' := m_X5_register) (As := []) (rest := []) dX5_parameter_45 ok_X5_register im_X5_register se_X5_register ml5_176 np_X5_register rfl rfl ha rfl (Nat.le_of_ble_eq_true rfl) (Nat.le_of_ble_eq_true rfl) rfl (k_X5_register_f (d) (T := T) (σ := σ47) (a := a) ha w52 fx54 hkd) (fun r55 T57 σ56 gt58 hp => ?_)
      obtain ⟨v61, rfl, rfl, w62, F63, f59, f60⟩ := hp
      clear gt58
      show Tn _ _ 48 T σ56 [(0, .ref a), (1, .int (iI c))] [.int (iI v61)] _
      refine tn_pop dX5_parameter_48 rfl ?_
      refine tn_aload_n dX5_parameter_49 rfl 0 rfl ?_
      obtain ⟨x64, hx65, hk66, hl67⟩ : ∃ x : Nat, σ.2.1 37 a = (x : Int) ∧ AR T x 17 256 256 := wf_37 hw ha
      have hk66i : IA T x64 := by unfold IA; omega
      refine tn_getR (ci := 5) (i := 4) (n := 37) (x := x64) dX5_parameter_50 rfl lay_5 (by decide) fl5_28 ha rfl rfl (rc_F F63 (Or.inl (by decide)) (by decide) (rc_F F53 (Or.inl (by decide)) (by decide) (hx65))) ?_
      refine tn_aload_n dX5_parameter_53 rfl 0 rfl ?_
      refine tn_getI (ci := 5) (i := 5) (n := 38) (t := σ.2.1 38 a) dX5_parameter_54 rfl lay_5 (by decide) fl5_58 ha rfl rfl (rc_F F63 (Or.inl (by decide)) (by decide) (rc_F F53 (Or.inl (by decide)) (by decide) (rfl))) ?_
      have g68 : ((0 : Int) ≤ σ.2.1 38 a ∧ σ.2.1 38 a ≤ 256) := wf_38 hw ha
      refine tn_iconst dX5_parameter_57 ?_
      refine tn_isub dX5_parameter_58 ?_
      refine tn_iload_n dX5_parameter_59 rfl 1 rfl ?_
      refine tn_callSN (M := m_X5_parameter) (pc := 60) (ix := 129) (M' := m_X11_put) (As := [.ref x64, .int (iI ((σ.2.1 38 a) - 1)), .int (iI c)]) (rest := []) dX5_parameter_60 ok_X11_put stt_X11_put nl5_129 np_X11_put rfl (Nat.le_of_ble_eq_true rfl) (Nat.le_of_ble_eq_true rfl) rfl (k_X11_put_17 (d + 1) (T := T) (σ := σ56) (x := x64) (i := (σ.2.1 38 a) - 1) (y := c) hk66i (by omega) hk66 (by omega) (by omega) w62 ) (fun r69 T71 σ70 gt72 hp => ?_)
      obtain ⟨rfl, rfl, w75, F76, f73⟩ := hp
      clear gt72
      have fx77e : σ.2.1 38 a = (uC (fpC (cntN 5 (σ.2.1 87 x1) (cx).fp) (cx)) (4, (tkS Sx jx).1, 0, (tkS Sx jx).2.2.2.2)).rn := (rc_F F63 (Or.inl (by decide)) (by decide) (rc_F F53 (Or.inl (by decide)) (by decide) (rfl))).symm.trans (f60).1.2.1.1.2.2.1
      have fx77 : RDX σ70 a Sx nx jx (rpC (c) (uC (fpC (cntN 5 (σ.2.1 87 x1) (cx).fp) (cx)) (4, (tkS Sx jx).1, 0, (tkS Sx jx).2.2.2.2))) (Nx) := RDX.rp f60 w62 ha (rc_F F63 (Or.inl (by decide)) (by decide) (rc_F F53 (Or.inl (by decide)) (by decide) (hx65))) F76 (by rw [f73, if_pos ⟨by omega, by omega⟩, fx77e])
      show Tn _ _ 63 T σ70 [(0, .ref a), (1, .int (iI c))] [] _
      refine tn_aload_n dX5_parameter_63 rfl 0 rfl ?_
      obtain ⟨x78, hx79, hk80⟩ : ∃ x : Nat, σ.2.1 35 a = (x : Int) ∧ (T x).1 = 31 := wf_35 hw ha
      have hk80o : OB T x78 1 := ⟨by omega, by rw [hk80]; rfl, by omega⟩
      refine tn_getR (ci := 5) (i := 2) (n := 35) (x := x78) dX5_parameter_64 rfl lay_5 (by decide) fl5_47 ha rfl rfl (rc_F F76 (Or.inl (by decide)) (by decide) (rc_F F63 (Or.inl (by decide)) (by decide) (rc_F F53 (Or.inl (by decide)) (by decide) (hx79)))) ?_
      refine tn_iload_n dX5_parameter_67 rfl 1 rfl ?_
      refine tn_iconst dX5_parameter_68 ?_
      refine tn_mmin (x := c) (y := 4) dX5_parameter_69 mlm5_117 stM_min iniM cdM_min (by omega) (Nat.le_of_ble_eq_true rfl) ⟨by omega, by omega⟩ ⟨by omega, by omega⟩ (fun z82 g83 => ?_)
      refine tn_putV (ci := 1) (i := 3) (n := 8) (r := false) (v := z82) tyX1 tyX1_ok nmX1 dX5_parameter_72 rfl lay_1 (by decide) fl5_180 rfl (tyX1_ok 3 (by decide)) rfl rfl rfl hk80o rfl rfl ?_
      exact tn_vret rfl dX5_parameter_75 ⟨rfl, rfl, (w75.put (by decide) (by decide) (fo_8 (by omega))), ((((FrC.rfl.trans (FrC.sub F53 (by decide))).trans (FrC.sub F63 (by decide))).trans (FrC.sub F76 (by decide))).put (by decide) (by decide)), RDX.cq (fx77.pt (by decide) (by decide)) (by rw [uC3c]; unfold ifN; rw [ifP_t (show 4 ≤ c - 1 by omega), ifP_f (fun q => absurd (nf13.mpr q) (by omega)), show (c - 1 + 1 : Int) = c by omega, g45pl])⟩
  · refine tn_aload_n dX5_parameter_15 rfl 0 rfl ?_
    refine tn_iconst dX5_parameter_16 ?_
    refine tn_aload_n dX5_parameter_17 rfl 0 rfl ?_
    refine tn_getR (ci := 5) (i := 0) (n := 33) (x := x1) dX5_parameter_18 rfl lay_5 (by decide) fl5_12 ha rfl rfl (hx2) ?_
    refine tn_getI (ci := 9) (i := 6) (n := 87) (t := σ.2.1 87 x1) dX5_parameter_21 rfl lay_9 (by decide) fl5_74 hk3o rfl rfl (rfl) ?_
    have g84 : ((-2147483648 : Int) ≤ σ.2.1 87 x1 ∧ σ.2.1 87 x1 ≤ 2147483647) := wf_87 hw hk3o
    have g84pl : σ.2.1 87 x1 = (tkS Sx jx).1 := (rfl).symm.trans ((hfx).1.pl (hx2))
    refine tn_callV (M := m_X5_parameter) (pc := 24) (ix := 113) (ci := 5) (M' := m_X5_note) (As := [.int (iI 2), .int (iI (σ.2.1 87 x1))]) (rest := []) dX5_parameter_24 ok_X5_note im_X5_note se_X5_note ml5_113 np_X5_note rfl rfl ha rfl (Nat.le_of_ble_eq_true rfl) (Nat.le_of_ble_eq_true rfl) rfl (k_X5_note_f (d + 1) (T := T) (σ := σ) (a := a) (f := 2) (p := σ.2.1 87 x1) ha (by decide) (by omega) hw ) (fun r85 T87 σ86 gt88 hp => ?_)
    obtain ⟨rfl, rfl, w91, F92, f89⟩ := hp
    clear gt88
    have fx93 : RDX σ86 a Sx nx jx (fpC (cntN 2 (σ.2.1 87 x1) (cx).fp) (cx)) (Nx) := RDX.nt hfx hw ha F92 f89
    show Tn _ _ 27 T σ86 [(0, .ref a), (1, .int (iI c))] [] _
    refine tn_iload_n dX5_parameter_27 rfl 1 rfl ?_
    refine tn_iconst dX5_parameter_28 ?_
    refine tn_icmp_le (tgt := 44) dX5_parameter_29 (by decide) ⟨by omega, by omega⟩ ⟨by decide, by decide⟩ (fun h94 => ?_) (fun h94 => ?_)
    · refine tn_aload_n dX5_parameter_44 rfl 0 rfl ?_
      refine tn_callV (M := m_X5_parameter) (pc := 45) (ix := 176) (ci := 5) (M' := m_X5_register) (As := []) (rest := []) dX5_parameter_45 ok_X5_register im_X5_register se_X5_register ml5_176 np_X5_register rfl rfl ha rfl (Nat.le_of_ble_eq_true rfl) (Nat.le_of_ble_eq_true rfl) rfl (k_X5_register_f (d) (T := T) (σ := σ86) (a := a) ha w91 fx93 hkd) (fun r95 T97 σ96 gt98 hp => ?_)
      obtain ⟨v101, rfl, rfl, w102, F103, f99, f100⟩ := hp
      clear gt98
      show Tn _ _ 48 T σ96 [(0, .ref a), (1, .int (iI c))] [.int (iI v101)] _
      refine tn_pop dX5_parameter_48 rfl ?_
      refine tn_aload_n dX5_parameter_49 rfl 0 rfl ?_
      obtain ⟨x104, hx105, hk106, hl107⟩ : ∃ x : Nat, σ.2.1 37 a = (x : Int) ∧ AR T x 17 256 256 := wf_37 hw ha
      have hk106i : IA T x104 := by unfold IA; omega
      refine tn_getR (ci := 5) (i := 4) (n := 37) (x := x104) dX5_parameter_50 rfl lay_5 (by decide) fl5_28 ha rfl rfl (rc_F F103 (Or.inl (by decide)) (by decide) (rc_F F92 (Or.inl (by decide)) (by decide) (hx105))) ?_
      refine tn_aload_n dX5_parameter_53 rfl 0 rfl ?_
      refine tn_getI (ci := 5) (i := 5) (n := 38) (t := σ.2.1 38 a) dX5_parameter_54 rfl lay_5 (by decide) fl5_58 ha rfl rfl (rc_F F103 (Or.inl (by decide)) (by decide) (rc_F F92 (Or.inl (by decide)) (by decide) (rfl))) ?_
      have g108 : ((0 : Int) ≤ σ.2.1 38 a ∧ σ.2.1 38 a ≤ 256) := wf_38 hw ha
      refine tn_iconst dX5_parameter_57 ?_
      refine tn_isub dX5_parameter_58 ?_
      refine tn_iload_n dX5_parameter_59 rfl 1 rfl ?_
      refine tn_callSN (M := m_X5_parameter) (pc := 60) (ix := 129) (M' := m_X11_put) (As := [.ref x104, .int (iI ((σ.2.1 38 a) - 1)), .int (iI c)]) (rest := []) dX5_parameter_60 ok_X11_put stt_X11_put nl5_129 np_X11_put rfl (Nat.le_of_ble_eq_true rfl) (Nat.le_of_ble_eq_true rfl) rfl (k_X11_put_17 (d + 1) (T := T) (σ := σ96) (x := x104) (i := (σ.2.1 38 a) - 1) (y := c) hk106i (by omega) hk106 (by omega) (by omega) w102 ) (fun r109 T111 σ110 gt112 hp => ?_)
      obtain ⟨rfl, rfl, w115, F116, f113⟩ := hp
      clear gt112
      have fx117e : σ.2.1 38 a = (uC (fpC (cntN 2 (σ.2.1 87 x1) (cx).fp) (cx)) (4, (tkS Sx jx).1, 0, (tkS Sx jx).2.2.2.2)).rn := (rc_F F103 (Or.inl (by decide)) (by decide) (rc_F F92 (Or.inl (by decide)) (by decide) (rfl))).symm.trans (f100).1.2.1.1.2.2.1
      have fx117 : RDX σ110 a Sx nx jx (rpC (c) (uC (fpC (cntN 2 (σ.2.1 87 x1) (cx).fp) (cx)) (4, (tkS Sx jx).1, 0, (tkS Sx jx).2.2.2.2))) (Nx) := RDX.rp f100 w102 ha (rc_F F103 (Or.inl (by decide)) (by decide) (rc_F F92 (Or.inl (by decide)) (by decide) (hx105))) F116 (by rw [f113, if_pos ⟨by omega, by omega⟩, fx117e])
      show Tn _ _ 63 T σ110 [(0, .ref a), (1, .int (iI c))] [] _
      refine tn_aload_n dX5_parameter_63 rfl 0 rfl ?_
      obtain ⟨x118, hx119, hk120⟩ : ∃ x : Nat, σ.2.1 35 a = (x : Int) ∧ (T x).1 = 31 := wf_35 hw ha
      have hk120o : OB T x118 1 := ⟨by omega, by rw [hk120]; rfl, by omega⟩
      refine tn_getR (ci := 5) (i := 2) (n := 35) (x := x118) dX5_parameter_64 rfl lay_5 (by decide) fl5_47 ha rfl rfl (rc_F F116 (Or.inl (by decide)) (by decide) (rc_F F103 (Or.inl (by decide)) (by decide) (rc_F F92 (Or.inl (by decide)) (by decide) (hx119)))) ?_
      refine tn_iload_n dX5_parameter_67 rfl 1 rfl ?_
      refine tn_iconst dX5_parameter_68 ?_
      refine tn_mmin (x := c) (y := 4) dX5_parameter_69 mlm5_117 stM_min iniM cdM_min (by omega) (Nat.le_of_ble_eq_true rfl) ⟨by omega, by omega⟩ ⟨by omega, by omega⟩ (fun z122 g123 => ?_)
      refine tn_putV (ci := 1) (i := 3) (n := 8) (r := false) (v := z122) tyX1 tyX1_ok nmX1 dX5_parameter_72 rfl lay_1 (by decide) fl5_180 rfl (tyX1_ok 3 (by decide)) rfl rfl rfl hk120o rfl rfl ?_
      exact tn_vret rfl dX5_parameter_75 ⟨rfl, rfl, (w115.put (by decide) (by decide) (fo_8 (by omega))), ((((FrC.rfl.trans (FrC.sub F92 (by decide))).trans (FrC.sub F103 (by decide))).trans (FrC.sub F116 (by decide))).put (by decide) (by decide)), RDX.cq (fx117.pt (by decide) (by decide)) (by rw [uC3c]; unfold ifN; rw [ifP_f (show ¬ 4 ≤ c - 1 by omega), ifP_t (nf13.mp (by omega)), show (c - 1 + 1 : Int) = c by omega, g84pl])⟩
    · refine tn_aload_n dX5_parameter_32 rfl 0 rfl ?_
      refine tn_iconst dX5_parameter_33 ?_
      refine tn_aload_n dX5_parameter_34 rfl 0 rfl ?_
      refine tn_getR (ci := 5) (i := 0) (n := 33) (x := x1) dX5_parameter_35 rfl lay_5 (by decide) fl5_12 ha rfl rfl (rc_F F92 (Or.inl (by decide)) (by decide) (hx2)) ?_
      refine tn_getI (ci := 9) (i := 6) (n := 87) (t := σ.2.1 87 x1) dX5_parameter_38 rfl lay_9 (by decide) fl5_74 hk3o rfl rfl (rc_F F92 (Or.inl (by decide)) (by decide) (rfl)) ?_
      refine tn_callV (M := m_X5_parameter) (pc := 41) (ix := 113) (ci := 5) (M' := m_X5_note) (As := [.int (iI 5), .int (iI (σ.2.1 87 x1))]) (rest := []) dX5_parameter_41 ok_X5_note im_X5_note se_X5_note ml5_113 np_X5_note rfl rfl ha rfl (Nat.le_of_ble_eq_true rfl) (Nat.le_of_ble_eq_true rfl) rfl (k_X5_note_f (d + 1) (T := T) (σ := σ86) (a := a) (f := 5) (p := σ.2.1 87 x1) ha (by decide) (by omega) w91 ) (fun r124 T126 σ125 gt127 hp => ?_)
      obtain ⟨rfl, rfl, w130, F131, f128⟩ := hp
      clear gt127
      have fx132 : RDX σ125 a Sx nx jx (fpC (cntN 5 (σ.2.1 87 x1) (fpC (cntN 2 (σ.2.1 87 x1) (cx).fp) (cx)).fp) (fpC (cntN 2 (σ.2.1 87 x1) (cx).fp) (cx))) (Nx) := RDX.nt fx93 w91 ha F131 f128
      show Tn _ _ 44 T σ125 [(0, .ref a), (1, .int (iI c))] [] _
      refine tn_aload_n dX5_parameter_44 rfl 0 rfl ?_
      refine tn_callV (M := m_X5_parameter) (pc := 45) (ix := 176) (ci := 5) (M' := m_X5_register) (As := []) (rest := []) dX5_parameter_45 ok_X5_register im_X5_register se_X5_register ml5_176 np_X5_register rfl rfl ha rfl (Nat.le_of_ble_eq_true rfl) (Nat.le_of_ble_eq_true rfl) rfl (k_X5_register_f (d) (T := T) (σ := σ125) (a := a) ha w130 fx132 hkd) (fun r133 T135 σ134 gt136 hp => ?_)
      obtain ⟨v139, rfl, rfl, w140, F141, f137, f138⟩ := hp
      clear gt136
      show Tn _ _ 48 T σ134 [(0, .ref a), (1, .int (iI c))] [.int (iI v139)] _
      refine tn_pop dX5_parameter_48 rfl ?_
      refine tn_aload_n dX5_parameter_49 rfl 0 rfl ?_
      obtain ⟨x142, hx143, hk144, hl145⟩ : ∃ x : Nat, σ.2.1 37 a = (x : Int) ∧ AR T x 17 256 256 := wf_37 hw ha
      have hk144i : IA T x142 := by unfold IA; omega
      refine tn_getR (ci := 5) (i := 4) (n := 37) (x := x142) dX5_parameter_50 rfl lay_5 (by decide) fl5_28 ha rfl rfl (rc_F F141 (Or.inl (by decide)) (by decide) (rc_F F131 (Or.inl (by decide)) (by decide) (rc_F F92 (Or.inl (by decide)) (by decide) (hx143)))) ?_
      refine tn_aload_n dX5_parameter_53 rfl 0 rfl ?_
      refine tn_getI (ci := 5) (i := 5) (n := 38) (t := σ.2.1 38 a) dX5_parameter_54 rfl lay_5 (by decide) fl5_58 ha rfl rfl (rc_F F141 (Or.inl (by decide)) (by decide) (rc_F F131 (Or.inl (by decide)) (by decide) (rc_F F92 (Or.inl (by decide)) (by decide) (rfl)))) ?_
      have g146 : ((0 : Int) ≤ σ.2.1 38 a ∧ σ.2.1 38 a ≤ 256) := wf_38 hw ha
      refine tn_iconst dX5_parameter_57 ?_
      refine tn_isub dX5_parameter_58 ?_
      refine tn_iload_n dX5_parameter_59 rfl 1 rfl ?_
      refine tn_callSN (M := m_X5_parameter) (pc := 60) (ix := 129) (M' := m_X11_put) (As := [.ref x142, .int (iI ((σ.2.1 38 a) - 1)), .int (iI c)]) (rest := []) dX5_parameter_60 ok_X11_put stt_X11_put nl5_129 np_X11_put rfl (Nat.le_of_ble_eq_true rfl) (Nat.le_of_ble_eq_true rfl) rfl (k_X11_put_17 (d + 1) (T := T) (σ := σ134) (x := x142) (i := (σ.2.1 38 a) - 1) (y := c) hk144i (by omega) hk144 (by omega) (by omega) w140 ) (fun r147 T149 σ148 gt150 hp => ?_)
      obtain ⟨rfl, rfl, w153, F154, f151⟩ := hp
      clear gt150
      have fx155e : σ.2.1 38 a = (uC (fpC (cntN 5 (σ.2.1 87 x1) (fpC (cntN 2 (σ.2.1 87 x1) (cx).fp) (cx)).fp) (fpC (cntN 2 (σ.2.1 87 x1) (cx).fp) (cx))) (4, (tkS Sx jx).1, 0, (tkS Sx jx).2.2.2.2)).rn := (rc_F F141 (Or.inl (by decide)) (by decide) (rc_F F131 (Or.inl (by decide)) (by decide) (rc_F F92 (Or.inl (by decide)) (by decide) (rfl)))).symm.trans (f138).1.2.1.1.2.2.1
      have fx155 : RDX σ148 a Sx nx jx (rpC (c) (uC (fpC (cntN 5 (σ.2.1 87 x1) (fpC (cntN 2 (σ.2.1 87 x1) (cx).fp) (cx)).fp) (fpC (cntN 2 (σ.2.1 87 x1) (cx).fp) (cx))) (4, (tkS Sx jx).1, 0, (tkS Sx jx).2.2.2.2))) (Nx) := RDX.rp f138 w140 ha (rc_F F141 (Or.inl (by decide)) (by decide) (rc_F F131 (Or.inl (by decide)) (by decide) (rc_F F92 (Or.inl (by decide)) (by decide) (hx143)))) F154 (by rw [f151, if_pos ⟨by omega, by omega⟩, fx155e])
      show Tn _ _ 63 T σ148 [(0, .ref a), (1, .int (iI c))] [] _
      refine tn_aload_n dX5_parameter_63 rfl 0 rfl ?_
      obtain ⟨x156, hx157, hk158⟩ : ∃ x : Nat, σ.2.1 35 a = (x : Int) ∧ (T x).1 = 31 := wf_35 hw ha
      have hk158o : OB T x156 1 := ⟨by omega, by rw [hk158]; rfl, by omega⟩
      refine tn_getR (ci := 5) (i := 2) (n := 35) (x := x156) dX5_parameter_64 rfl lay_5 (by decide) fl5_47 ha rfl rfl (rc_F F154 (Or.inl (by decide)) (by decide) (rc_F F141 (Or.inl (by decide)) (by decide) (rc_F F131 (Or.inl (by decide)) (by decide) (rc_F F92 (Or.inl (by decide)) (by decide) (hx157))))) ?_
      refine tn_iload_n dX5_parameter_67 rfl 1 rfl ?_
      refine tn_iconst dX5_parameter_68 ?_
      refine tn_mmin (x := c) (y := 4) dX5_parameter_69 mlm5_117 stM_min iniM cdM_min (by omega) (Nat.le_of_ble_eq_true rfl) ⟨by omega, by omega⟩ ⟨by omega, by omega⟩ (fun z160 g161 => ?_)
      refine tn_putV (ci := 1) (i := 3) (n := 8) (r := false) (v := z160) tyX1 tyX1_ok nmX1 dX5_parameter_72 rfl lay_1 (by decide) fl5_180 rfl (tyX1_ok 3 (by decide)) rfl rfl rfl hk158o rfl rfl ?_
      exact tn_vret rfl dX5_parameter_75 ⟨rfl, rfl, (w153.put (by decide) (by decide) (fo_8 (by omega))), (((((FrC.rfl.trans (FrC.sub F92 (by decide))).trans (FrC.sub F131 (by decide))).trans (FrC.sub F141 (by decide))).trans (FrC.sub F154 (by decide))).put (by decide) (by decide)), RDX.cq (fx155.pt (by decide) (by decide)) (by rw [uC3c]; unfold ifN; rw [ifP_t (show 4 ≤ c - 1 by omega), ifP_t (nf13.mp (by omega)), show (c - 1 + 1 : Int) = c by omega, g84pl])⟩
