section
theorem cd_X11_read : Cond.code yX11_read cX11_read 3 (some .int) ∈ pWW := pw3 (List.mem_of_getElem? (i := 20) rfl) rfl
abbrev m_X11_read : MT := (yX11_read, cX11_read, 3, (some .int))
theorem ok_X11_read : pOk m_X11_read := ⟨⟨cd_X11_read, ini_11⟩, by decide +kernel, ⟨by decide +kernel, by decide +kernel⟩, Nat.le_of_ble_eq_true rfl⟩
theorem np_X11_read : (parseMethodDescriptor yX11_read.desc).map (fun d => d.parameters.length) = some 0 := by decide +kernel
theorem im_X11_read : Cond.instanceMethod yX11_read ∈ pWW := pw3 (List.mem_of_getElem? (i := 18) rfl) rfl
theorem se_X11_read : Cond.selects RX11 yX11_read yX11_read ∈ pWW := pw3 (List.mem_of_getElem? (i := 19) rfl) rfl
theorem ml11_94 : Cond.methodLink RX11 94 yX5_take ∈ pWW := pw3 (List.mem_of_getElem? (i := 21) rfl) rfl
theorem fl11_98 : Cond.fieldLink RX11 98 (TX5 10).1 (TX5 10).2.1 (TX5 10).2.2.1 ∈ pWW := pw1 (List.mem_of_getElem? (i := 165) rfl) rfl
theorem fl11_104 : Cond.fieldLink RX11 104 (TX5 11).1 (TX5 11).2.1 (TX5 11).2.2.1 ∈ pWW := pw1 (List.mem_of_getElem? (i := 167) rfl) rfl
theorem fl11_107 : Cond.fieldLink RX11 107 (TX5 5).1 (TX5 5).2.1 (TX5 5).2.2.1 ∈ pWW := pw1 (List.mem_of_getElem? (i := 159) rfl) rfl
theorem ml11_117 : Cond.methodLink RX11 117 yX11_takeMade ∈ pWW := pw4 (List.mem_of_getElem? (i := 16) rfl) rfl
theorem dX11_read_0 : decode cX11_read 0 = .ok (.aload_n 0, 1) := by decide +kernel
theorem dX11_read_1 : decode cX11_read 1 = .ok (.getfield 25, 3) := by decide +kernel
theorem dX11_read_4 : decode cX11_read 4 = .ok (.aload_n 0, 1) := by decide +kernel
theorem dX11_read_5 : decode cX11_read 5 = .ok (.getfield 9, 3) := by decide +kernel
theorem dX11_read_8 : decode cX11_read 8 = .ok (.aload_n 0, 1) := by decide +kernel
theorem dX11_read_9 : decode cX11_read 9 = .ok (.getfield 87, 3) := by decide +kernel
theorem dX11_read_12 : decode cX11_read 12 = .ok (.invokevirtual 94, 3) := by decide +kernel
theorem dX11_read_15 : decode cX11_read 15 = .ok (.istore_n 1, 1) := by decide +kernel
theorem dX11_read_16 : decode cX11_read 16 = .ok (.aload_n 0, 1) := by decide +kernel
theorem dX11_read_17 : decode cX11_read 17 = .ok (.iconst 0, 1) := by decide +kernel
theorem dX11_read_18 : decode cX11_read 18 = .ok (.putfield 87, 3) := by decide +kernel
theorem dX11_read_21 : decode cX11_read 21 = .ok (.aload_n 0, 1) := by decide +kernel
theorem dX11_read_22 : decode cX11_read 22 = .ok (.aload_n 0, 1) := by decide +kernel
theorem dX11_read_23 : decode cX11_read 23 = .ok (.getfield 25, 3) := by decide +kernel
theorem dX11_read_26 : decode cX11_read 26 = .ok (.getfield 98, 3) := by decide +kernel
theorem dX11_read_29 : decode cX11_read 29 = .ok (.putfield 101, 3) := by decide +kernel
theorem dX11_read_32 : decode cX11_read 32 = .ok (.aload_n 0, 1) := by decide +kernel
theorem dX11_read_33 : decode cX11_read 33 = .ok (.iload_n 1, 1) := by decide +kernel
theorem dX11_read_34 : decode cX11_read 34 = .ok (.ifCond .eq 7, 3) := by decide +kernel
theorem dX11_read_41 : decode cX11_read 41 = .ok (.aload_n 0, 1) := by decide +kernel
theorem dX11_read_42 : decode cX11_read 42 = .ok (.getfield 25, 3) := by decide +kernel
theorem dX11_read_45 : decode cX11_read 45 = .ok (.getfield 104, 3) := by decide +kernel
theorem dX11_read_48 : decode cX11_read 48 = .ok (.putfield 43, 3) := by decide +kernel
theorem dX11_read_51 : decode cX11_read 51 = .ok (.iload_n 1, 1) := by decide +kernel
theorem dX11_read_52 : decode cX11_read 52 = .ok (.ifCond .ne 5, 3) := by decide +kernel
theorem dX11_read_55 : decode cX11_read 55 = .ok (.iconst (-1), 1) := by decide +kernel
theorem dX11_read_56 : decode cX11_read 56 = .ok (.ireturn, 1) := by decide +kernel
theorem dX11_read_37 : decode cX11_read 37 = .ok (.iconst (-1), 1) := by decide +kernel
theorem dX11_read_38 : decode cX11_read 38 = .ok (.goto 10, 3) := by decide +kernel
theorem dX11_read_57 : decode cX11_read 57 = .ok (.aload_n 0, 1) := by decide +kernel
theorem dX11_read_58 : decode cX11_read 58 = .ok (.aload_n 0, 1) := by decide +kernel
theorem dX11_read_59 : decode cX11_read 59 = .ok (.getfield 25, 3) := by decide +kernel
theorem dX11_read_62 : decode cX11_read 62 = .ok (.getfield 107, 3) := by decide +kernel
theorem dX11_read_65 : decode cX11_read 65 = .ok (.bipush 6, 2) := by decide +kernel
theorem dX11_read_67 : decode cX11_read 67 = .ok (.invokestatic 110, 3) := by decide +kernel
theorem dX11_read_70 : decode cX11_read 70 = .ok (.putfield 116, 3) := by decide +kernel
theorem dX11_read_73 : decode cX11_read 73 = .ok (.iconst 0, 1) := by decide +kernel
theorem dX11_read_74 : decode cX11_read 74 = .ok (.istore_n 2, 1) := by decide +kernel
theorem dX11_read_75 : decode cX11_read 75 = .ok (.iload_n 2, 1) := by decide +kernel
theorem dX11_read_76 : decode cX11_read 76 = .ok (.aload_n 0, 1) := by decide +kernel
theorem dX11_read_77 : decode cX11_read 77 = .ok (.getfield 116, 3) := by decide +kernel
theorem dX11_read_80 : decode cX11_read 80 = .ok (.if_icmp .ge 14, 3) := by decide +kernel
theorem dX11_read_83 : decode cX11_read 83 = .ok (.aload_n 0, 1) := by decide +kernel
theorem dX11_read_84 : decode cX11_read 84 = .ok (.iload_n 2, 1) := by decide +kernel
theorem dX11_read_85 : decode cX11_read 85 = .ok (.invokevirtual 117, 3) := by decide +kernel
theorem dX11_read_88 : decode cX11_read 88 = .ok (.iinc 2 1, 3) := by decide +kernel
theorem dX11_read_91 : decode cX11_read 91 = .ok (.goto (-16), 3) := by decide +kernel
set_option maxRecDepth 20000 in
theorem l_X11_read_75 (d : Nat) {T0 : CT} {σ0 : MS} {a : Nat} {post : Option Value → CT → MS → Prop} (hw0 : WT T0 σ0) (hx_94 : ∀ (T : CT) (i2 : Int) (σ : MS) , (GT T0 T) → (WT T σ) → (FrC T0 [5, 6, 7, 8, 9, 10] σ0 σ) → (OB T a 11) → (0 ≤ i2 ∧ i2 ≤ 2147483647) → Tn (d + 80) m_X11_read 94 T σ [(0, .ref a), (2, .int (iI i2))] [] post) : ∀ (n : Nat) (T : CT) (i2 : Int) (σ : MS) , (GT T0 T) → (WT T σ) → (FrC T0 [5, 6, 7, 8, 9, 10] σ0 σ) → (OB T a 11) → (0 ≤ i2 ∧ i2 ≤ 2147483647) → (2147483700 - i2).toNat = n → Tn (d + 80) m_X11_read 75 T σ [(0, .ref a), (2, .int (iI i2))] [] post := by
  intro n
  induction n using Nat.strongRecOn with
  | _ n ih =>
    intro T i2 σ hG hw hF h_a r_i2 hm
    refine tn_iload_n dX11_read_75 rfl 1 rfl ?_
    refine tn_aload_n dX11_read_76 rfl 0 rfl ?_
    refine tn_getI (ci := 11) (i := 2) (n := 97) (t := σ.2.1 97 a) dX11_read_77 rfl lay_11 (by decide) fl11_116 h_a rfl rfl (rfl) ?_
    have g1 : ((0 : Int) ≤ σ.2.1 97 a ∧ σ.2.1 97 a ≤ 6) := wf_97 hw h_a
    refine tn_icmp_ge (tgt := 94) dX11_read_80 (by decide) ⟨by omega, by omega⟩ ⟨by omega, by omega⟩ (fun h2 => ?_) (fun h2 => ?_)
    · exact tn_sub [0, 1] rfl (hx_94 T (i2) σ hG hw (FrC.rfl.trans (FrC.sub hF (by decide))) h_a (by omega))
    · refine tn_aload_n dX11_read_83 rfl 0 rfl ?_
      refine tn_iload_n dX11_read_84 rfl 1 rfl ?_
      refine tn_callV (M := m_X11_read) (pc := 85) (ix := 117) (ci := 11) (M' := m_X11_takeMade) (As := [.int (iI i2)]) (rest := []) dX11_read_85 ok_X11_takeMade im_X11_takeMade se_X11_takeMade ml11_117 np_X11_takeMade rfl rfl h_a rfl (Nat.le_of_ble_eq_true rfl) (Nat.le_of_ble_eq_true rfl) rfl (k_X11_takeMade (d + 75) (T := T) (σ := σ) (a := a) (r := i2) h_a (by omega) hw ) (fun r3 T5 σ4 gt6 hp => ?_)
      obtain ⟨rfl, w8, F9⟩ := hp
      replace h_a : OB T5 a 11 := gt6.ob h_a
      show Tn _ _ 88 T5 σ4 [(0, .ref a), (2, .int (iI i2))] [] _
      refine tn_iinc (q0 := 1) (L' := [(2, .int (iI (i2 + 1))), (0, .ref a)]) dX11_read_88 rfl (by decide) rfl ?_
      refine tn_goto (tgt := 75) dX11_read_91 (by decide) ?_
      exact tn_sub [1, 0] rfl (ih _ (by omega) T5 (i2 + 1) σ4 (GT.trans hG gt6) w8 ((FrC.rfl.trans (FrC.sub hF (by decide))).trans (FrC.sub (FrC.old F9 hG) (by decide))) h_a (by omega) rfl)
theorem dX11_read_94 : decode cX11_read 94 = .ok (.aload_n 0, 1) := by decide +kernel
theorem dX11_read_95 : decode cX11_read 95 = .ok (.getfield 83, 3) := by decide +kernel
theorem dX11_read_98 : decode cX11_read 98 = .ok (.invokevirtual 120, 3) := by decide +kernel
theorem dX11_read_101 : decode cX11_read 101 = .ok (.aload_n 0, 1) := by decide +kernel
theorem dX11_read_102 : decode cX11_read 102 = .ok (.getfield 116, 3) := by decide +kernel
theorem dX11_read_105 : decode cX11_read 105 = .ok (.ireturn, 1) := by decide +kernel
set_option maxRecDepth 20000 in
theorem k_X11_read (d : Nat) {T : CT} {σ : MS} {a : Nat} (ha : OB T a 11) (hw : WT T σ) : Tn (d + 80) m_X11_read 0 T σ [(0, .ref a)] [] (fun ro T2 σ2 => ∃ v : Int, ro = some (.int (iI v)) ∧ WT T2 σ2 ∧ FrC T [5, 6, 7, 8, 9, 10, 35, 38, 42, 43, 44, 45, 46, 47, 50, 51, 56, 84, 85, 86, 87, 96, 97, 104, 105, 512, 516, 517, 518, 519, 520, 521, 522, 523] σ σ2 ∧ (-2147483648 ≤ v ∧ v ≤ 2147483647) ∧ (σ2.2.1 96 a = 0)) := by
  refine tn_aload_n dX11_read_0 rfl 0 rfl ?_
  obtain ⟨x1, hx2, hk3⟩ : ∃ x : Nat, σ.2.1 100 a = (x : Int) ∧ (T x).1 = 35 := wf_100 hw ha
  have hk3o : OB T x1 5 := ⟨by omega, by rw [hk3]; rfl, by omega⟩
  refine tn_getR (ci := 11) (i := 5) (n := 100) (x := x1) dX11_read_1 rfl lay_11 (by decide) fl11_25 ha rfl rfl (hx2) ?_
  refine tn_aload_n dX11_read_4 rfl 0 rfl ?_
  obtain ⟨x5, hx6, hk7, hl8⟩ : ∃ x : Nat, σ.2.1 95 a = (x : Int) ∧ AR T x 2 1200 1200 := wf_95 hw ha
  refine tn_getR (ci := 11) (i := 0) (n := 95) (x := x5) dX11_read_5 rfl lay_11 (by decide) fl11_9 ha rfl rfl (hx6) ?_
  refine tn_aload_n dX11_read_8 rfl 0 rfl ?_
  refine tn_getI (ci := 11) (i := 1) (n := 96) (t := σ.2.1 96 a) dX11_read_9 rfl lay_11 (by decide) fl11_87 ha rfl rfl (rfl) ?_
  have g9 : ((0 : Int) ≤ σ.2.1 96 a ∧ σ.2.1 96 a ≤ 1200) := wf_96 hw ha
  refine tn_callV (M := m_X11_read) (pc := 12) (ix := 94) (ci := 5) (M' := m_X5_take) (As := [.ref x5, .int (iI (σ.2.1 96 a))]) (rest := []) dX11_read_12 ok_X5_take im_X5_take se_X5_take ml11_94 np_X5_take rfl rfl hk3o rfl (Nat.le_of_ble_eq_true rfl) (Nat.le_of_ble_eq_true rfl) rfl (k_X5_take (d) (T := T) (σ := σ) (a := x1) (t := x5) (n := σ.2.1 96 a) hk3o hk7 (by omega) (by omega) hw (by omega)) (fun r10 T12 σ11 gt13 hp => ?_)
  obtain ⟨v15, rfl, w16, F17, f14⟩ := hp
  replace ha : OB T12 a 11 := gt13.ob ha
  show Tn _ _ 15 T12 σ11 [(0, .ref a)] [.int (iI v15)] _
  refine tn_istore_n (L' := [(1, .int (iI v15)), (0, .ref a)]) dX11_read_15 rfl (by decide) rfl ?_
  refine tn_aload_n dX11_read_16 rfl 1 rfl ?_
  refine tn_iconst dX11_read_17 ?_
  refine tn_putV (ci := 11) (i := 1) (n := 96) (r := false) (v := 0) tyX11 tyX11_ok nmX11 dX11_read_18 rfl lay_11 (by decide) fl11_87 rfl (tyX11_ok 1 (by decide)) rfl rfl rfl ha rfl rfl ?_
  refine tn_aload_n dX11_read_21 rfl 1 rfl ?_
  refine tn_aload_n dX11_read_22 rfl 1 rfl ?_
  obtain ⟨x18, hx19, hk20⟩ : ∃ x : Nat, σ11.2.1 100 a = (x : Int) ∧ (T12 x).1 = 35 := wf_100 w16 ha
  have hk20o : OB T12 x18 5 := ⟨by omega, by rw [hk20]; rfl, by omega⟩
  refine tn_getR (ci := 11) (i := 5) (n := 100) (x := x18) dX11_read_23 rfl lay_11 (by decide) fl11_25 ha rfl rfl (rc_o (by decide) (hx19)) ?_
  refine tn_getI (ci := 5) (i := 10) (n := 43) (t := σ11.2.1 43 x18) dX11_read_26 rfl lay_5 (by decide) fl11_98 hk20o rfl rfl (rc_o (by decide) (rfl)) ?_
  have g22 : ((-2147483648 : Int) ≤ σ11.2.1 43 x18 ∧ σ11.2.1 43 x18 ≤ 2147483647) := wf_43 w16 hk20o
  refine tn_putV (ci := 11) (i := 9) (n := 104) (r := false) (v := σ11.2.1 43 x18) tyX11 tyX11_ok nmX11 dX11_read_29 rfl lay_11 (by decide) fl11_101 rfl (tyX11_ok 9 (by decide)) rfl rfl rfl ha rfl rfl ?_
  refine tn_aload_n dX11_read_32 rfl 1 rfl ?_
  refine tn_iload_n dX11_read_33 rfl 0 rfl ?_
  refine tn_if_eq (tgt := 41) dX11_read_34 (by decide) ⟨by omega, by omega⟩ (fun h23 => ?_) (fun h23 => ?_)
  · refine tn_aload_n dX11_read_41 rfl 1 rfl ?_
    refine tn_getR (ci := 11) (i := 5) (n := 100) (x := x18) dX11_read_42 rfl lay_11 (by decide) fl11_25 ha rfl rfl (rc_o (by decide) (rc_o (by decide) (hx19))) ?_
    refine tn_getI (ci := 5) (i := 11) (n := 44) (t := σ11.2.1 44 x18) dX11_read_45 rfl lay_5 (by decide) fl11_104 hk20o rfl rfl (rc_o (by decide) (rc_o (by decide) (rfl))) ?_
    have g24 : ((-2147483648 : Int) ≤ σ11.2.1 44 x18 ∧ σ11.2.1 44 x18 ≤ 2147483647) := wf_44 w16 hk20o
    refine tn_putV (ci := 11) (i := 10) (n := 105) (r := false) (v := σ11.2.1 44 x18) tyX11 tyX11_ok nmX11 dX11_read_48 rfl lay_11 (by decide) fl11_43 rfl (tyX11_ok 10 (by decide)) rfl rfl rfl ha rfl rfl ?_
    refine tn_iload_n dX11_read_51 rfl 0 rfl ?_
    refine tn_if_ne (tgt := 57) dX11_read_52 (by decide) ⟨by omega, by omega⟩ (fun h25 => absurd h25 (by omega)) (fun h25 => ?_)
    refine tn_iconst dX11_read_55 ?_
    have q26 : (sA 105 a (σ11.2.1 44 x18) (sA 104 a (σ11.2.1 43 x18) (sA 96 a (0) σ11))).2.1 96 a = 0 := rc_o (by decide) (rc_o (by decide) (ra_eq))
    exact tn_iret rfl dX11_read_56 ⟨_, rfl, (((w16.put (by decide) (by decide) (fo_96 (by omega))).put (by decide) (by decide) (fo_104 (by omega))).put (by decide) (by decide) (fo_105 (by omega))), ((((FrC.rfl.trans (FrC.sub F17 (by decide))).put (by decide) (by decide)).put (by decide) (by decide)).put (by decide) (by decide)), by omega, by omega⟩
  · refine tn_iconst dX11_read_37 ?_
    refine tn_goto (tgt := 48) dX11_read_38 (by decide) ?_
    refine tn_putV (ci := 11) (i := 10) (n := 105) (r := false) (v := -1) tyX11 tyX11_ok nmX11 dX11_read_48 rfl lay_11 (by decide) fl11_43 rfl (tyX11_ok 10 (by decide)) rfl rfl rfl ha rfl rfl ?_
    refine tn_iload_n dX11_read_51 rfl 0 rfl ?_
    refine tn_if_ne (tgt := 57) dX11_read_52 (by decide) ⟨by omega, by omega⟩ (fun h27 => ?_) (fun h27 => absurd h27 (by omega))
    refine tn_aload_n dX11_read_57 rfl 1 rfl ?_
    refine tn_aload_n dX11_read_58 rfl 1 rfl ?_
    refine tn_getR (ci := 11) (i := 5) (n := 100) (x := x18) dX11_read_59 rfl lay_11 (by decide) fl11_25 ha rfl rfl (rc_o (by decide) (rc_o (by decide) (rc_o (by decide) (hx19)))) ?_
    refine tn_getI (ci := 5) (i := 5) (n := 38) (t := σ11.2.1 38 x18) dX11_read_62 rfl lay_5 (by decide) fl11_107 hk20o rfl rfl (rc_o (by decide) (rc_o (by decide) (rc_o (by decide) (rfl)))) ?_
    have g28 : ((0 : Int) ≤ σ11.2.1 38 x18 ∧ σ11.2.1 38 x18 ≤ 256) := wf_38 w16 hk20o
    refine tn_bipush dX11_read_65 (by decide) ?_
    refine tn_mmin (x := σ11.2.1 38 x18) (y := 6) dX11_read_67 mlm11_110 stM_min iniM cdM_min (by omega) (Nat.le_of_ble_eq_true rfl) ⟨by omega, by omega⟩ ⟨by omega, by omega⟩ (fun z29 g30 => ?_)
    refine tn_putV (ci := 11) (i := 2) (n := 97) (r := false) (v := z29) tyX11 tyX11_ok nmX11 dX11_read_70 rfl lay_11 (by decide) fl11_116 rfl (tyX11_ok 2 (by decide)) rfl rfl rfl ha rfl rfl ?_
    refine tn_iconst dX11_read_73 ?_
    refine tn_istore_n (L' := [(2, .int (iI 0)), (1, .int (iI v15)), (0, .ref a)]) dX11_read_74 rfl (by decide) rfl ?_
    refine tn_sub [2, 0] rfl (l_X11_read_75 (d) (σ0 := (sA 97 a (z29) (sA 105 a (-1) (sA 104 a (σ11.2.1 43 x18) (sA 96 a (0) σ11))))) (T0 := T12) (a := a) ((((w16.put (by decide) (by decide) (fo_96 (by omega))).put (by decide) (by decide) (fo_104 (by omega))).put (by decide) (by decide) (fo_105 (by omega))).put (by decide) (by decide) (fo_97 (by omega))) (fun T33 i231 σ32 gt34 w35 F36 q37 r38 => ?_) _ T12 (0) (sA 97 a (z29) (sA 105 a (-1) (sA 104 a (σ11.2.1 43 x18) (sA 96 a (0) σ11)))) GT.rfl ((((w16.put (by decide) (by decide) (fo_96 (by omega))).put (by decide) (by decide) (fo_104 (by omega))).put (by decide) (by decide) (fo_105 (by omega))).put (by decide) (by decide) (fo_97 (by omega))) FrC.rfl ha (by omega) rfl)
    show Tn _ _ 94 T33 σ32 [(0, .ref a), (2, .int (iI i231))] [] _
    refine tn_aload_n dX11_read_94 rfl 0 rfl ?_
    obtain ⟨x39, hx40, hk41⟩ : ∃ x : Nat, σ32.2.1 103 a = (x : Int) ∧ (T33 x).1 = 37 := wf_103 w35 q37
    have hk41o : OB T33 x39 7 := ⟨by omega, by rw [hk41]; rfl, by omega⟩
    refine tn_getR (ci := 11) (i := 8) (n := 103) (x := x39) dX11_read_95 rfl lay_11 (by decide) fl11_83 q37 rfl rfl (hx40) ?_
    refine tn_callV (M := m_X11_read) (pc := 98) (ix := 120) (ci := 7) (M' := m_X7_forget) (As := []) (rest := []) dX11_read_98 ok_X7_forget im_X7_forget se_X7_forget ml11_120 np_X7_forget rfl rfl hk41o rfl (Nat.le_of_ble_eq_true rfl) (Nat.le_of_ble_eq_true rfl) rfl (k_X7_forget (d + 78) (T := T33) (σ := σ32) (a := x39) hk41o w35 ) (fun r43 T45 σ44 gt46 hp => ?_)
    obtain ⟨rfl, rfl, w48, F49⟩ := hp
    clear gt46
    show Tn _ _ 101 T33 σ44 [(0, .ref a), (2, .int (iI i231))] [] _
    refine tn_aload_n dX11_read_101 rfl 0 rfl ?_
    refine tn_getI (ci := 11) (i := 2) (n := 97) (t := σ32.2.1 97 a) dX11_read_102 rfl lay_11 (by decide) fl11_116 q37 rfl rfl (rc_F F49 (Or.inl (by decide)) (by decide) (rfl)) ?_
    have g50 : ((0 : Int) ≤ σ32.2.1 97 a ∧ σ32.2.1 97 a ≤ 6) := wf_97 w35 q37
    have q51 : σ44.2.1 96 a = 0 := rc_F F49 (Or.inl (by decide)) (by decide) (rc_F F36 (Or.inl (by decide)) (by decide) (rc_o (by decide) (rc_o (by decide) (rc_o (by decide) (ra_eq)))))
    exact tn_iret rfl dX11_read_105 ⟨_, rfl, w48, (((((((FrC.rfl.trans (FrC.sub F17 (by decide))).put (by decide) (by decide)).put (by decide) (by decide)).put (by decide) (by decide)).put (by decide) (by decide)).trans (FrC.sub (FrC.old F36 gt13) (by decide))).trans (FrC.sub (FrC.old F49 (GT.trans gt13 gt34)) (by decide))), by omega, by omega⟩
end
section
theorem cd_X11_start : Cond.code yX11_start cX11_start 6 (some .boolean) ∈ pWW := pw6 (List.mem_of_getElem? (i := 28) rfl) rfl
abbrev m_X11_start : MT := (yX11_start, cX11_start, 6, (some .boolean))
theorem ok_X11_start : pOk m_X11_start := ⟨⟨cd_X11_start, ini_11⟩, by decide +kernel, ⟨by decide +kernel, by decide +kernel⟩, Nat.le_of_ble_eq_true rfl⟩
theorem np_X11_start : (parseMethodDescriptor yX11_start.desc).map (fun d => d.parameters.length) = some 5 := by decide +kernel
theorem im_X11_start : Cond.instanceMethod yX11_start ∈ pWW := pw6 (List.mem_of_getElem? (i := 26) rfl) rfl
theorem se_X11_start : Cond.selects RX11 yX11_start yX11_start ∈ pWW := pw6 (List.mem_of_getElem? (i := 27) rfl) rfl
theorem ml11_204 : Cond.methodLink RX11 204 yX7_begin ∈ pWW := pw6 (List.mem_of_getElem? (i := 29) rfl) rfl
theorem dX11_start_0 : decode cX11_start 0 = .ok (.aload_n 0, 1) := by decide +kernel
theorem dX11_start_1 : decode cX11_start 1 = .ok (.iload_n 1, 1) := by decide +kernel
theorem dX11_start_2 : decode cX11_start 2 = .ok (.invokevirtual 123, 3) := by decide +kernel
theorem dX11_start_5 : decode cX11_start 5 = .ok (.ifnonnull 5, 3) := by decide +kernel
theorem dX11_start_8 : decode cX11_start 8 = .ok (.iconst 0, 1) := by decide +kernel
theorem dX11_start_9 : decode cX11_start 9 = .ok (.ireturn, 1) := by decide +kernel
theorem dX11_start_10 : decode cX11_start 10 = .ok (.aload_n 0, 1) := by decide +kernel
theorem dX11_start_11 : decode cX11_start 11 = .ok (.getfield 83, 3) := by decide +kernel
theorem dX11_start_14 : decode cX11_start 14 = .ok (.iload_n 1, 1) := by decide +kernel
theorem dX11_start_15 : decode cX11_start 15 = .ok (.iload_n 2, 1) := by decide +kernel
theorem dX11_start_16 : decode cX11_start 16 = .ok (.iload_n 3, 1) := by decide +kernel
theorem dX11_start_17 : decode cX11_start 17 = .ok (.iload 4, 2) := by decide +kernel
theorem dX11_start_19 : decode cX11_start 19 = .ok (.iload 5, 2) := by decide +kernel
theorem dX11_start_21 : decode cX11_start 21 = .ok (.invokevirtual 204, 3) := by decide +kernel
theorem dX11_start_24 : decode cX11_start 24 = .ok (.iconst 1, 1) := by decide +kernel
theorem dX11_start_25 : decode cX11_start 25 = .ok (.ireturn, 1) := by decide +kernel
set_option maxRecDepth 20000 in
theorem k_X11_start (d : Nat) {T : CT} {σ : MS} {a : Nat} {r : Int} {p : Int} {q : Int} {s : Int} {t : Int} {B : Int} (ha : OB T a 11) (h_r : -2147483648 ≤ r ∧ r ≤ 2147483647) (h_p : -2147483648 ≤ p ∧ p ≤ 2147483647) (h_q : -2147483648 ≤ q ∧ q ≤ 2147483647) (h_s : -2147483648 ≤ s ∧ s ≤ 2147483647) (h_t : -2147483648 ≤ t ∧ t ≤ 2147483647) (hw : WT T σ) (htr : TR σ a B) (hB : 0 ≤ B) : Tn (d + 5) m_X11_start 0 T σ [(0, .ref a), (1, .int (iI r)), (2, .int (iI p)), (3, .int (iI q)), (4, .int (iI s)), (5, .int (iI t))] [] (fun ro T2 σ2 => ∃ v : Int, ro = some (.int (iI v)) ∧ T = T2 ∧ WT T2 σ2 ∧ FrC T [56, 57, 58, 65, 66, 67, 68, 69, 515] σ σ2 ∧ (v = 0 ∨ v = 1) ∧ (TR σ2 a B)) := by
  refine tn_aload_n dX11_start_0 rfl 0 rfl ?_
  refine tn_iload_n dX11_start_1 rfl 1 rfl ?_
  refine tn_callV (M := m_X11_start) (pc := 2) (ix := 123) (ci := 11) (M' := m_X11_codeOf) (As := [.int (iI r)]) (rest := []) dX11_start_2 ok_X11_codeOf im_X11_codeOf se_X11_codeOf ml11_123 np_X11_codeOf rfl rfl ha rfl (Nat.le_of_ble_eq_true rfl) (Nat.le_of_ble_eq_true rfl) rfl (k_X11_codeOf (d + 3) (T := T) (σ := σ) (a := a) (r := r) ha (by omega) hw ) (fun r1 T3 σ2 gt4 hp => ?_)
  obtain ⟨v5, rfl, rfl, rfl, rv6⟩ := hp
  clear gt4
  rcases rv6 with rv6 | ⟨x7, rfl, hk8⟩
  · show Tn _ _ 5 T σ [(0, .ref a), (1, .int (iI r)), (2, .int (iI p)), (3, .int (iI q)), (4, .int (iI s)), (5, .int (iI t))] (vl true v5 :: []) _
    rw [vl_null rv6]
    refine tn_ifnonnullN dX11_start_5 ?_
    refine tn_iconst dX11_start_8 ?_
    exact tn_zret (v := 0) rfl (by decide) dX11_start_9 ⟨_, rfl, rfl, hw, FrC.rfl, by omega, htr⟩
  · show Tn _ _ 5 T σ [(0, .ref a), (1, .int (iI r)), (2, .int (iI p)), (3, .int (iI q)), (4, .int (iI s)), (5, .int (iI t))] (vl true (x7 : Int) :: []) _
    rw [vl_ref rfl]
    have hk8o : OB T x7 1 := ⟨by omega, by rw [hk8]; rfl, by omega⟩
    refine tn_ifnonnull (tgt := 10) dX11_start_5 (by decide) ?_
    refine tn_aload_n dX11_start_10 rfl 0 rfl ?_
    obtain ⟨x9, hx10, hk11⟩ : ∃ x : Nat, σ.2.1 103 a = (x : Int) ∧ (T x).1 = 37 := wf_103 hw ha
    have hk11o : OB T x9 7 := ⟨by omega, by rw [hk11]; rfl, by omega⟩
    refine tn_getR (ci := 11) (i := 8) (n := 103) (x := x9) dX11_start_11 rfl lay_11 (by decide) fl11_83 ha rfl rfl (hx10) ?_
    refine tn_iload_n dX11_start_14 rfl 1 rfl ?_
    refine tn_iload_n dX11_start_15 rfl 2 rfl ?_
    refine tn_iload_n dX11_start_16 rfl 3 rfl ?_
    refine tn_iload dX11_start_17 4 rfl ?_
    refine tn_iload dX11_start_19 5 rfl ?_
    refine tn_callV (M := m_X11_start) (pc := 21) (ix := 204) (ci := 7) (M' := m_X7_begin) (As := [.int (iI r), .int (iI p), .int (iI q), .int (iI s), .int (iI t)]) (rest := []) dX11_start_21 ok_X7_begin im_X7_begin se_X7_begin ml11_204 np_X7_begin rfl rfl hk11o rfl (Nat.le_of_ble_eq_true rfl) (Nat.le_of_ble_eq_true rfl) rfl (k_X7_begin (d) (T := T) (σ := σ) (a := x9) (p1 := r) (p2 := p) (p3 := q) (p4 := s) (p5 := t) hk11o hk11 (by omega) (by omega) (by omega) (by omega) (by omega) hw ) (fun r13 T15 σ14 gt16 hp => ?_)
    obtain ⟨rfl, rfl, w20, F21, f17, f18⟩ := hp
    clear gt16
    show Tn _ _ 24 T σ14 [(0, .ref a), (1, .int (iI r)), (2, .int (iI p)), (3, .int (iI q)), (4, .int (iI s)), (5, .int (iI t))] [] _
    refine tn_iconst dX11_start_24 ?_
    exact tn_zret (v := 1) rfl (by decide) dX11_start_25 ⟨_, rfl, rfl, w20, (FrC.rfl.trans (FrC.sub F21 (by decide))), by omega, TR.of (rc_F F21 (Or.inl (by decide)) (by decide) (hx10)) (by omega)⟩
end
section
theorem cd_X11_go : Cond.code yX11_go cX11_go 3 (some .int) ∈ pWW := pw6 (List.mem_of_getElem? (i := 51) rfl) rfl
abbrev m_X11_go : MT := (yX11_go, cX11_go, 3, (some .int))
theorem ok_X11_go : pOk m_X11_go := ⟨⟨cd_X11_go, ini_11⟩, by decide +kernel, ⟨by decide +kernel, by decide +kernel⟩, Nat.le_of_ble_eq_true rfl⟩
theorem np_X11_go : (parseMethodDescriptor yX11_go.desc).map (fun d => d.parameters.length) = some 2 := by decide +kernel
theorem im_X11_go : Cond.instanceMethod yX11_go ∈ pWW := pw6 (List.mem_of_getElem? (i := 49) rfl) rfl
theorem se_X11_go : Cond.selects RX11 yX11_go yX11_go ∈ pWW := pw6 (List.mem_of_getElem? (i := 50) rfl) rfl
theorem fl11_208 : Cond.fieldLink RX11 208 (TX7 1).1 (TX7 1).2.1 (TX7 1).2.2.1 ∈ pWW := pw2 (List.mem_of_getElem? (i := 136) rfl) rfl
theorem ml11_211 : Cond.methodLink RX11 211 yX7_advance ∈ pWW := pw6 (List.mem_of_getElem? (i := 52) rfl) rfl
theorem dX11_go_0 : decode cX11_go 0 = .ok (.iload_n 1, 1) := by decide +kernel
theorem dX11_go_1 : decode cX11_go 1 = .ok (.ifCond .lt 30, 3) := by decide +kernel
theorem dX11_go_31 : decode cX11_go 31 = .ok (.iconst (-1), 1) := by decide +kernel
theorem dX11_go_32 : decode cX11_go 32 = .ok (.ireturn, 1) := by decide +kernel
theorem dX11_go_4 : decode cX11_go 4 = .ok (.iload_n 1, 1) := by decide +kernel
theorem dX11_go_5 : decode cX11_go 5 = .ok (.iconst 2, 1) := by decide +kernel
theorem dX11_go_6 : decode cX11_go 6 = .ok (.if_icmp .gt 25, 3) := by decide +kernel
theorem dX11_go_9 : decode cX11_go 9 = .ok (.iload_n 2, 1) := by decide +kernel
theorem dX11_go_10 : decode cX11_go 10 = .ok (.iconst 1, 1) := by decide +kernel
theorem dX11_go_11 : decode cX11_go 11 = .ok (.if_icmp .lt 20, 3) := by decide +kernel
theorem dX11_go_14 : decode cX11_go 14 = .ok (.iload_n 2, 1) := by decide +kernel
theorem dX11_go_15 : decode cX11_go 15 = .ok (.sipush 20000, 3) := by decide +kernel
theorem dX11_go_18 : decode cX11_go 18 = .ok (.if_icmp .gt 13, 3) := by decide +kernel
theorem dX11_go_21 : decode cX11_go 21 = .ok (.aload_n 0, 1) := by decide +kernel
theorem dX11_go_22 : decode cX11_go 22 = .ok (.getfield 83, 3) := by decide +kernel
theorem dX11_go_25 : decode cX11_go 25 = .ok (.getfield 208, 3) := by decide +kernel
theorem dX11_go_28 : decode cX11_go 28 = .ok (.ifCond .ne 5, 3) := by decide +kernel
theorem dX11_go_33 : decode cX11_go 33 = .ok (.aload_n 0, 1) := by decide +kernel
theorem dX11_go_34 : decode cX11_go 34 = .ok (.getfield 83, 3) := by decide +kernel
theorem dX11_go_37 : decode cX11_go 37 = .ok (.iload_n 1, 1) := by decide +kernel
theorem dX11_go_38 : decode cX11_go 38 = .ok (.iload_n 2, 1) := by decide +kernel
theorem dX11_go_39 : decode cX11_go 39 = .ok (.invokevirtual 211, 3) := by decide +kernel
theorem dX11_go_42 : decode cX11_go 42 = .ok (.ireturn, 1) := by decide +kernel
set_option maxRecDepth 20000 in
theorem k_X11_go (d : Nat) {T : CT} {σ : MS} {a : Nat} {w : Int} {n : Int} {B : Int} (ha : OB T a 11) (h_w : -2147483648 ≤ w ∧ w ≤ 2147483647) (h_n : -2147483648 ≤ n ∧ n ≤ 2147483647) (hw : WT T σ) (htr : TR σ a B) (hB : B ≤ 11164000) : Tn (d + 7) m_X11_go 0 T σ [(0, .ref a), (1, .int (iI w)), (2, .int (iI n))] [] (fun ro T2 σ2 => ∃ v : Int, ro = some (.int (iI v)) ∧ T = T2 ∧ WT T2 σ2 ∧ FrC T [56, 57, 58, 65, 66, 67, 68, 69, 515] σ σ2 ∧ (-2147483648 ≤ v ∧ v ≤ 2147483647) ∧ (TR σ2 a (B + 20001))) := by
  refine tn_iload_n dX11_go_0 rfl 1 rfl ?_
  refine tn_if_lt (tgt := 31) dX11_go_1 (by decide) ⟨by omega, by omega⟩ (fun h1 => ?_) (fun h1 => ?_)
  · refine tn_iconst dX11_go_31 ?_
    exact tn_iret rfl dX11_go_32 ⟨_, rfl, rfl, hw, FrC.rfl, by omega, htr.up (by omega)⟩
  · refine tn_iload_n dX11_go_4 rfl 1 rfl ?_
    refine tn_iconst dX11_go_5 ?_
    refine tn_icmp_gt (tgt := 31) dX11_go_6 (by decide) ⟨by omega, by omega⟩ ⟨by decide, by decide⟩ (fun h2 => ?_) (fun h2 => ?_)
    · refine tn_iconst dX11_go_31 ?_
      exact tn_iret rfl dX11_go_32 ⟨_, rfl, rfl, hw, FrC.rfl, by omega, htr.up (by omega)⟩
    · refine tn_iload_n dX11_go_9 rfl 2 rfl ?_
      refine tn_iconst dX11_go_10 ?_
      refine tn_icmp_lt (tgt := 31) dX11_go_11 (by decide) ⟨by omega, by omega⟩ ⟨by decide, by decide⟩ (fun h3 => ?_) (fun h3 => ?_)
      · refine tn_iconst dX11_go_31 ?_
        exact tn_iret rfl dX11_go_32 ⟨_, rfl, rfl, hw, FrC.rfl, by omega, htr.up (by omega)⟩
      · refine tn_iload_n dX11_go_14 rfl 2 rfl ?_
        refine tn_sipush dX11_go_15 (by decide) ?_
        refine tn_icmp_gt (tgt := 31) dX11_go_18 (by decide) ⟨by omega, by omega⟩ ⟨by decide, by decide⟩ (fun h4 => ?_) (fun h4 => ?_)
        · refine tn_iconst dX11_go_31 ?_
          exact tn_iret rfl dX11_go_32 ⟨_, rfl, rfl, hw, FrC.rfl, by omega, htr.up (by omega)⟩
        · refine tn_aload_n dX11_go_21 rfl 0 rfl ?_
          obtain ⟨x5, hx6, hk7⟩ : ∃ x : Nat, σ.2.1 103 a = (x : Int) ∧ (T x).1 = 37 := wf_103 hw ha
          have hk7o : OB T x5 7 := ⟨by omega, by rw [hk7]; rfl, by omega⟩
          refine tn_getR (ci := 11) (i := 8) (n := 103) (x := x5) dX11_go_22 rfl lay_11 (by decide) fl11_83 ha rfl rfl (hx6) ?_
          refine tn_getI (ci := 7) (i := 1) (n := 56) (t := σ.2.1 56 x5) dX11_go_25 rfl lay_7 (by decide) fl11_208 hk7o rfl rfl (rfl) ?_
          have g9 : ((-2147483648 : Int) ≤ σ.2.1 56 x5 ∧ σ.2.1 56 x5 ≤ 2147483647) := wf_56 hw hk7o
          refine tn_if_ne (tgt := 33) dX11_go_28 (by decide) ⟨by omega, by omega⟩ (fun h10 => ?_) (fun h10 => ?_)
          · refine tn_aload_n dX11_go_33 rfl 0 rfl ?_
            refine tn_getR (ci := 11) (i := 8) (n := 103) (x := x5) dX11_go_34 rfl lay_11 (by decide) fl11_83 ha rfl rfl (hx6) ?_
            refine tn_iload_n dX11_go_37 rfl 1 rfl ?_
            refine tn_iload_n dX11_go_38 rfl 2 rfl ?_
            refine tn_callV (M := m_X11_go) (pc := 39) (ix := 211) (ci := 7) (M' := m_X7_advance) (As := [.int (iI w), .int (iI n)]) (rest := []) dX11_go_39 ok_X7_advance im_X7_advance se_X7_advance ml11_211 np_X7_advance rfl rfl hk7o rfl (Nat.le_of_ble_eq_true rfl) (Nat.le_of_ble_eq_true rfl) rfl (k_X7_advance (d) (T := T) (σ := σ) (a := x5) (w := w) (n := n) hk7o hk7 (by omega) (by omega) hw (by omega) (by have q9 := htr x5 (hx6); omega)) (fun r11 T13 σ12 gt14 hp => ?_)
            obtain ⟨v17, rfl, rfl, w18, F19, f15, f16⟩ := hp
            clear gt14
            show Tn _ _ 42 T σ12 [(0, .ref a), (1, .int (iI w)), (2, .int (iI n))] [.int (iI v17)] _
            exact tn_iret rfl dX11_go_42 ⟨_, rfl, rfl, w18, (FrC.rfl.trans (FrC.sub F19 (by decide))), by omega, TR.of (rc_F F19 (Or.inl (by decide)) (by decide) (hx6)) (by have q9 := htr x5 hx6; omega)⟩
          · refine tn_iconst dX11_go_31 ?_
            exact tn_iret rfl dX11_go_32 ⟨_, rfl, rfl, hw, FrC.rfl, by omega, htr.up (by omega)⟩
end
section
theorem cd_X11_stack : Cond.code yX11_stack cX11_stack 3 (some .int) ∈ pWW := pw6 (List.mem_of_getElem? (i := 100) rfl) rfl
abbrev m_X11_stack : MT := (yX11_stack, cX11_stack, 3, (some .int))
theorem ok_X11_stack : pOk m_X11_stack := ⟨⟨cd_X11_stack, ini_11⟩, by decide +kernel, ⟨by decide +kernel, by decide +kernel⟩, Nat.le_of_ble_eq_true rfl⟩
theorem np_X11_stack : (parseMethodDescriptor yX11_stack.desc).map (fun d => d.parameters.length) = some 2 := by decide +kernel
theorem im_X11_stack : Cond.instanceMethod yX11_stack ∈ pWW := pw6 (List.mem_of_getElem? (i := 98) rfl) rfl
theorem se_X11_stack : Cond.selects RX11 yX11_stack yX11_stack ∈ pWW := pw6 (List.mem_of_getElem? (i := 99) rfl) rfl
theorem ml11_214 : Cond.methodLink RX11 214 yX7_find ∈ pWW := pw6 (List.mem_of_getElem? (i := 101) rfl) rfl
theorem ml11_224 : Cond.methodLink RX11 224 yX7_foundNames ∈ pWW := pw6 (List.mem_of_getElem? (i := 121) rfl) rfl
theorem ml11_221 : Cond.methodLink RX11 221 yX7_foundRoutine ∈ pWW := pw6 (List.mem_of_getElem? (i := 117) rfl) rfl
theorem ml11_218 : Cond.methodLink RX11 218 yX7_foundLine ∈ pWW := pw6 (List.mem_of_getElem? (i := 113) rfl) rfl
theorem dX11_stack_0 : decode cX11_stack 0 = .ok (.iload_n 2, 1) := by decide +kernel
theorem dX11_stack_1 : decode cX11_stack 1 = .ok (.ifCond .lt 19, 3) := by decide +kernel
theorem dX11_stack_20 : decode cX11_stack 20 = .ok (.iconst (-1), 1) := by decide +kernel
theorem dX11_stack_21 : decode cX11_stack 21 = .ok (.ireturn, 1) := by decide +kernel
theorem dX11_stack_4 : decode cX11_stack 4 = .ok (.iload_n 2, 1) := by decide +kernel
theorem dX11_stack_5 : decode cX11_stack 5 = .ok (.iconst 2, 1) := by decide +kernel
theorem dX11_stack_6 : decode cX11_stack 6 = .ok (.if_icmp .gt 14, 3) := by decide +kernel
theorem dX11_stack_9 : decode cX11_stack 9 = .ok (.aload_n 0, 1) := by decide +kernel
theorem dX11_stack_10 : decode cX11_stack 10 = .ok (.getfield 83, 3) := by decide +kernel
theorem dX11_stack_13 : decode cX11_stack 13 = .ok (.iload_n 1, 1) := by decide +kernel
theorem dX11_stack_14 : decode cX11_stack 14 = .ok (.invokevirtual 214, 3) := by decide +kernel
theorem dX11_stack_17 : decode cX11_stack 17 = .ok (.ifCond .ne 5, 3) := by decide +kernel
theorem dX11_stack_22 : decode cX11_stack 22 = .ok (.iload_n 2, 1) := by decide +kernel
theorem dX11_stack_23 : decode cX11_stack 23 = .ok (.iconst 1, 1) := by decide +kernel
theorem dX11_stack_24 : decode cX11_stack 24 = .ok (.if_icmp .ne 11, 3) := by decide +kernel
theorem dX11_stack_35 : decode cX11_stack 35 = .ok (.iload_n 2, 1) := by decide +kernel
theorem dX11_stack_36 : decode cX11_stack 36 = .ok (.ifCond .ne 13, 3) := by decide +kernel
theorem dX11_stack_49 : decode cX11_stack 49 = .ok (.aload_n 0, 1) := by decide +kernel
theorem dX11_stack_50 : decode cX11_stack 50 = .ok (.getfield 83, 3) := by decide +kernel
theorem dX11_stack_53 : decode cX11_stack 53 = .ok (.invokevirtual 224, 3) := by decide +kernel
theorem dX11_stack_56 : decode cX11_stack 56 = .ok (.ireturn, 1) := by decide +kernel
theorem dX11_stack_39 : decode cX11_stack 39 = .ok (.aload_n 0, 1) := by decide +kernel
theorem dX11_stack_40 : decode cX11_stack 40 = .ok (.getfield 83, 3) := by decide +kernel
theorem dX11_stack_43 : decode cX11_stack 43 = .ok (.invokevirtual 221, 3) := by decide +kernel
theorem dX11_stack_46 : decode cX11_stack 46 = .ok (.goto 10, 3) := by decide +kernel
theorem dX11_stack_27 : decode cX11_stack 27 = .ok (.aload_n 0, 1) := by decide +kernel
theorem dX11_stack_28 : decode cX11_stack 28 = .ok (.getfield 83, 3) := by decide +kernel
theorem dX11_stack_31 : decode cX11_stack 31 = .ok (.invokevirtual 218, 3) := by decide +kernel
theorem dX11_stack_34 : decode cX11_stack 34 = .ok (.ireturn, 1) := by decide +kernel
set_option maxRecDepth 20000 in
theorem k_X11_stack (d : Nat) {T : CT} {σ : MS} {a : Nat} {k : Int} {w : Int} (ha : OB T a 11) (h_k : -2147483648 ≤ k ∧ k ≤ 2147483647) (h_w : -2147483648 ≤ w ∧ w ≤ 2147483647) (hw : WT T σ) : Tn (d + 5) m_X11_stack 0 T σ [(0, .ref a), (1, .int (iI k)), (2, .int (iI w))] [] (fun ro T2 σ2 => ∃ v : Int, ro = some (.int (iI v)) ∧ T = T2 ∧ WT T2 σ2 ∧ FrC T [70, 71] σ σ2 ∧ (-2147483648 ≤ v ∧ v ≤ 2147483647)) := by
  refine tn_iload_n dX11_stack_0 rfl 2 rfl ?_
  refine tn_if_lt (tgt := 20) dX11_stack_1 (by decide) ⟨by omega, by omega⟩ (fun h1 => ?_) (fun h1 => ?_)
  · refine tn_iconst dX11_stack_20 ?_
    exact tn_iret rfl dX11_stack_21 ⟨_, rfl, rfl, hw, FrC.rfl, by omega⟩
  · refine tn_iload_n dX11_stack_4 rfl 2 rfl ?_
    refine tn_iconst dX11_stack_5 ?_
    refine tn_icmp_gt (tgt := 20) dX11_stack_6 (by decide) ⟨by omega, by omega⟩ ⟨by decide, by decide⟩ (fun h2 => ?_) (fun h2 => ?_)
    · refine tn_iconst dX11_stack_20 ?_
      exact tn_iret rfl dX11_stack_21 ⟨_, rfl, rfl, hw, FrC.rfl, by omega⟩
    · refine tn_aload_n dX11_stack_9 rfl 0 rfl ?_
      obtain ⟨x3, hx4, hk5⟩ : ∃ x : Nat, σ.2.1 103 a = (x : Int) ∧ (T x).1 = 37 := wf_103 hw ha
      have hk5o : OB T x3 7 := ⟨by omega, by rw [hk5]; rfl, by omega⟩
      refine tn_getR (ci := 11) (i := 8) (n := 103) (x := x3) dX11_stack_10 rfl lay_11 (by decide) fl11_83 ha rfl rfl (hx4) ?_
      refine tn_iload_n dX11_stack_13 rfl 1 rfl ?_
      refine tn_callV (M := m_X11_stack) (pc := 14) (ix := 214) (ci := 7) (M' := m_X7_find) (As := [.int (iI k)]) (rest := []) dX11_stack_14 ok_X7_find im_X7_find se_X7_find ml11_214 np_X7_find rfl rfl hk5o rfl (Nat.le_of_ble_eq_true rfl) (Nat.le_of_ble_eq_true rfl) rfl (k_X7_find (d) (T := T) (σ := σ) (a := x3) (k := k) hk5o (by omega) hw ) (fun r7 T9 σ8 gt10 hp => ?_)
      obtain ⟨v13, rfl, rfl, w14, F15, f11, f12⟩ := hp
      clear gt10
      clear f12
      show Tn _ _ 17 T σ8 [(0, .ref a), (1, .int (iI k)), (2, .int (iI w))] [.int (iI v13)] _
      refine tn_if_ne (tgt := 22) dX11_stack_17 (by decide) ⟨by omega, by omega⟩ (fun h16 => ?_) (fun h16 => ?_)
      · refine tn_iload_n dX11_stack_22 rfl 2 rfl ?_
        refine tn_iconst dX11_stack_23 ?_
        refine tn_icmp_ne (tgt := 35) dX11_stack_24 (by decide) ⟨by omega, by omega⟩ ⟨by decide, by decide⟩ (fun h17 => ?_) (fun h17 => ?_)
        · refine tn_iload_n dX11_stack_35 rfl 2 rfl ?_
          refine tn_if_ne (tgt := 49) dX11_stack_36 (by decide) ⟨by omega, by omega⟩ (fun h18 => ?_) (fun h18 => ?_)
          · refine tn_aload_n dX11_stack_49 rfl 0 rfl ?_
            refine tn_getR (ci := 11) (i := 8) (n := 103) (x := x3) dX11_stack_50 rfl lay_11 (by decide) fl11_83 ha rfl rfl (rc_F F15 (Or.inl (by decide)) (by decide) (hx4)) ?_
            refine tn_callV (M := m_X11_stack) (pc := 53) (ix := 224) (ci := 7) (M' := m_X7_foundNames) (As := []) (rest := []) dX11_stack_53 ok_X7_foundNames im_X7_foundNames se_X7_foundNames ml11_224 np_X7_foundNames rfl rfl hk5o rfl (Nat.le_of_ble_eq_true rfl) (Nat.le_of_ble_eq_true rfl) rfl (k_X7_foundNames (d + 1) (T := T) (σ := σ8) (a := x3) hk5o w14 ) (fun r19 T21 σ20 gt22 hp => ?_)
            obtain ⟨v24, rfl, rfl, rfl, f23⟩ := hp
            clear gt22
            show Tn _ _ 56 T σ8 [(0, .ref a), (1, .int (iI k)), (2, .int (iI w))] [.int (iI v24)] _
            exact tn_iret rfl dX11_stack_56 ⟨_, rfl, rfl, w14, (FrC.rfl.trans (FrC.sub F15 (by decide))), by omega⟩
          · refine tn_aload_n dX11_stack_39 rfl 0 rfl ?_
            refine tn_getR (ci := 11) (i := 8) (n := 103) (x := x3) dX11_stack_40 rfl lay_11 (by decide) fl11_83 ha rfl rfl (rc_F F15 (Or.inl (by decide)) (by decide) (hx4)) ?_
            refine tn_callV (M := m_X11_stack) (pc := 43) (ix := 221) (ci := 7) (M' := m_X7_foundRoutine) (As := []) (rest := []) dX11_stack_43 ok_X7_foundRoutine im_X7_foundRoutine se_X7_foundRoutine ml11_221 np_X7_foundRoutine rfl rfl hk5o rfl (Nat.le_of_ble_eq_true rfl) (Nat.le_of_ble_eq_true rfl) rfl (k_X7_foundRoutine (d + 1) (T := T) (σ := σ8) (a := x3) hk5o w14 ) (fun r25 T27 σ26 gt28 hp => ?_)
            obtain ⟨v30, rfl, rfl, rfl, f29⟩ := hp
            clear gt28
            show Tn _ _ 46 T σ8 [(0, .ref a), (1, .int (iI k)), (2, .int (iI w))] [.int (iI v30)] _
            refine tn_goto (tgt := 56) dX11_stack_46 (by decide) ?_
            exact tn_iret rfl dX11_stack_56 ⟨_, rfl, rfl, w14, (FrC.rfl.trans (FrC.sub F15 (by decide))), by omega⟩
        · refine tn_aload_n dX11_stack_27 rfl 0 rfl ?_
          refine tn_getR (ci := 11) (i := 8) (n := 103) (x := x3) dX11_stack_28 rfl lay_11 (by decide) fl11_83 ha rfl rfl (rc_F F15 (Or.inl (by decide)) (by decide) (hx4)) ?_
          refine tn_callV (M := m_X11_stack) (pc := 31) (ix := 218) (ci := 7) (M' := m_X7_foundLine) (As := []) (rest := []) dX11_stack_31 ok_X7_foundLine im_X7_foundLine se_X7_foundLine ml11_218 np_X7_foundLine rfl rfl hk5o rfl (Nat.le_of_ble_eq_true rfl) (Nat.le_of_ble_eq_true rfl) rfl (k_X7_foundLine (d + 2) (T := T) (σ := σ8) (a := x3) hk5o w14 ) (fun r31 T33 σ32 gt34 hp => ?_)
          obtain ⟨v36, rfl, rfl, rfl, f35⟩ := hp
          clear gt34
          show Tn _ _ 34 T σ8 [(0, .ref a), (1, .int (iI k)), (2, .int (iI w))] [.int (iI v36)] _
          exact tn_iret rfl dX11_stack_34 ⟨_, rfl, rfl, w14, (FrC.rfl.trans (FrC.sub F15 (by decide))), by omega⟩
      · refine tn_iconst dX11_stack_20 ?_
        exact tn_iret rfl dX11_stack_21 ⟨_, rfl, rfl, w14, (FrC.rfl.trans (FrC.sub F15 (by decide))), by omega⟩
end
section
theorem cd_X11_value : Cond.code yX11_value cX11_value 3 (some .int) ∈ pWW := pw6 (List.mem_of_getElem? (i := 148) rfl) rfl
abbrev m_X11_value : MT := (yX11_value, cX11_value, 3, (some .int))
theorem ok_X11_value : pOk m_X11_value := ⟨⟨cd_X11_value, ini_11⟩, by decide +kernel, ⟨by decide +kernel, by decide +kernel⟩, Nat.le_of_ble_eq_true rfl⟩
theorem np_X11_value : (parseMethodDescriptor yX11_value.desc).map (fun d => d.parameters.length) = some 2 := by decide +kernel
theorem im_X11_value : Cond.instanceMethod yX11_value ∈ pWW := pw6 (List.mem_of_getElem? (i := 146) rfl) rfl
theorem se_X11_value : Cond.selects RX11 yX11_value yX11_value ∈ pWW := pw6 (List.mem_of_getElem? (i := 147) rfl) rfl
theorem ml11_227 : Cond.methodLink RX11 227 yX7_foundSource ∈ pWW := pw6 (List.mem_of_getElem? (i := 129) rfl) rfl
theorem ml11_230 : Cond.methodLink RX11 230 yX7_foundCode ∈ pWW := pw6 (List.mem_of_getElem? (i := 133) rfl) rfl
theorem ml11_234 : Cond.methodLink RX11 234 yX7_foundId ∈ pWW := pw6 (List.mem_of_getElem? (i := 134) rfl) rfl
theorem ml11_238 : Cond.methodLink RX11 238 yX7_foundValue ∈ pWW := pw6 (List.mem_of_getElem? (i := 149) rfl) rfl
theorem dX11_value_0 : decode cX11_value 0 = .ok (.aload_n 0, 1) := by decide +kernel
theorem dX11_value_1 : decode cX11_value 1 = .ok (.getfield 83, 3) := by decide +kernel
theorem dX11_value_4 : decode cX11_value 4 = .ok (.iload_n 1, 1) := by decide +kernel
theorem dX11_value_5 : decode cX11_value 5 = .ok (.invokevirtual 214, 3) := by decide +kernel
theorem dX11_value_8 : decode cX11_value 8 = .ok (.ifCond .eq 18, 3) := by decide +kernel
theorem dX11_value_26 : decode cX11_value 26 = .ok (.iconst 0, 1) := by decide +kernel
theorem dX11_value_27 : decode cX11_value 27 = .ok (.ireturn, 1) := by decide +kernel
theorem dX11_value_11 : decode cX11_value 11 = .ok (.iload_n 2, 1) := by decide +kernel
theorem dX11_value_12 : decode cX11_value 12 = .ok (.ifCond .lt 14, 3) := by decide +kernel
theorem dX11_value_15 : decode cX11_value 15 = .ok (.iload_n 2, 1) := by decide +kernel
theorem dX11_value_16 : decode cX11_value 16 = .ok (.aload_n 0, 1) := by decide +kernel
theorem dX11_value_17 : decode cX11_value 17 = .ok (.getfield 83, 3) := by decide +kernel
theorem dX11_value_20 : decode cX11_value 20 = .ok (.invokevirtual 224, 3) := by decide +kernel
theorem dX11_value_23 : decode cX11_value 23 = .ok (.if_icmp .lt 5, 3) := by decide +kernel
theorem dX11_value_28 : decode cX11_value 28 = .ok (.aload_n 0, 1) := by decide +kernel
theorem dX11_value_29 : decode cX11_value 29 = .ok (.getfield 39, 3) := by decide +kernel
theorem dX11_value_32 : decode cX11_value 32 = .ok (.aload_n 0, 1) := by decide +kernel
theorem dX11_value_33 : decode cX11_value 33 = .ok (.getfield 83, 3) := by decide +kernel
theorem dX11_value_36 : decode cX11_value 36 = .ok (.invokevirtual 227, 3) := by decide +kernel
theorem dX11_value_39 : decode cX11_value 39 = .ok (.aload_n 0, 1) := by decide +kernel
theorem dX11_value_40 : decode cX11_value 40 = .ok (.getfield 83, 3) := by decide +kernel
theorem dX11_value_43 : decode cX11_value 43 = .ok (.invokevirtual 230, 3) := by decide +kernel
theorem dX11_value_46 : decode cX11_value 46 = .ok (.invokevirtual 176, 3) := by decide +kernel
theorem dX11_value_49 : decode cX11_value 49 = .ok (.aload_n 0, 1) := by decide +kernel
theorem dX11_value_50 : decode cX11_value 50 = .ok (.getfield 83, 3) := by decide +kernel
theorem dX11_value_53 : decode cX11_value 53 = .ok (.aload_n 0, 1) := by decide +kernel
theorem dX11_value_54 : decode cX11_value 54 = .ok (.getfield 39, 3) := by decide +kernel
theorem dX11_value_57 : decode cX11_value 57 = .ok (.aload_n 0, 1) := by decide +kernel
theorem dX11_value_58 : decode cX11_value 58 = .ok (.getfield 83, 3) := by decide +kernel
theorem dX11_value_61 : decode cX11_value 61 = .ok (.aload_n 0, 1) := by decide +kernel
theorem dX11_value_62 : decode cX11_value 62 = .ok (.getfield 39, 3) := by decide +kernel
theorem dX11_value_65 : decode cX11_value 65 = .ok (.iload_n 2, 1) := by decide +kernel
theorem dX11_value_66 : decode cX11_value 66 = .ok (.invokevirtual 234, 3) := by decide +kernel
theorem dX11_value_69 : decode cX11_value 69 = .ok (.invokevirtual 238, 3) := by decide +kernel
theorem dX11_value_72 : decode cX11_value 72 = .ok (.ireturn, 1) := by decide +kernel
set_option maxRecDepth 20000 in
theorem k_X11_value (d : Nat) {T : CT} {σ : MS} {a : Nat} {k : Int} {m : Int} (ha : OB T a 11) (h_k : -2147483648 ≤ k ∧ k ≤ 2147483647) (h_m : -2147483648 ≤ m ∧ m ≤ 2147483647) (hw : WT T σ) : Tn (d + 6) m_X11_value 0 T σ [(0, .ref a), (1, .int (iI k)), (2, .int (iI m))] [] (fun ro T2 σ2 => ∃ v : Int, ro = some (.int (iI v)) ∧ WT T2 σ2 ∧ FrC T [70, 71, 92, 93, 94, 900] σ σ2 ∧ (-2147483648 ≤ v ∧ v ≤ 2147483647)) := by
  refine tn_aload_n dX11_value_0 rfl 0 rfl ?_
  obtain ⟨x1, hx2, hk3⟩ : ∃ x : Nat, σ.2.1 103 a = (x : Int) ∧ (T x).1 = 37 := wf_103 hw ha
  have hk3o : OB T x1 7 := ⟨by omega, by rw [hk3]; rfl, by omega⟩
  refine tn_getR (ci := 11) (i := 8) (n := 103) (x := x1) dX11_value_1 rfl lay_11 (by decide) fl11_83 ha rfl rfl (hx2) ?_
  refine tn_iload_n dX11_value_4 rfl 1 rfl ?_
  refine tn_callV (M := m_X11_value) (pc := 5) (ix := 214) (ci := 7) (M' := m_X7_find) (As := [.int (iI k)]) (rest := []) dX11_value_5 ok_X7_find im_X7_find se_X7_find ml11_214 np_X7_find rfl rfl hk3o rfl (Nat.le_of_ble_eq_true rfl) (Nat.le_of_ble_eq_true rfl) rfl (k_X7_find (d + 1) (T := T) (σ := σ) (a := x1) (k := k) hk3o (by omega) hw ) (fun r5 T7 σ6 gt8 hp => ?_)
  obtain ⟨v11, rfl, rfl, w12, F13, f9, f10⟩ := hp
  clear gt8
  clear f10
  show Tn _ _ 8 T σ6 [(0, .ref a), (1, .int (iI k)), (2, .int (iI m))] [.int (iI v11)] _
  refine tn_if_eq (tgt := 26) dX11_value_8 (by decide) ⟨by omega, by omega⟩ (fun h14 => ?_) (fun h14 => ?_)
  · refine tn_iconst dX11_value_26 ?_
    exact tn_iret rfl dX11_value_27 ⟨_, rfl, w12, (FrC.rfl.trans (FrC.sub F13 (by decide))), by omega⟩
  · refine tn_iload_n dX11_value_11 rfl 2 rfl ?_
    refine tn_if_lt (tgt := 26) dX11_value_12 (by decide) ⟨by omega, by omega⟩ (fun h15 => ?_) (fun h15 => ?_)
    · refine tn_iconst dX11_value_26 ?_
      exact tn_iret rfl dX11_value_27 ⟨_, rfl, w12, (FrC.rfl.trans (FrC.sub F13 (by decide))), by omega⟩
    · refine tn_iload_n dX11_value_15 rfl 2 rfl ?_
      refine tn_aload_n dX11_value_16 rfl 0 rfl ?_
      refine tn_getR (ci := 11) (i := 8) (n := 103) (x := x1) dX11_value_17 rfl lay_11 (by decide) fl11_83 ha rfl rfl (rc_F F13 (Or.inl (by decide)) (by decide) (hx2)) ?_
      refine tn_callV (M := m_X11_value) (pc := 20) (ix := 224) (ci := 7) (M' := m_X7_foundNames) (As := []) (rest := [.int (iI m)]) dX11_value_20 ok_X7_foundNames im_X7_foundNames se_X7_foundNames ml11_224 np_X7_foundNames rfl rfl hk3o rfl (Nat.le_of_ble_eq_true rfl) (Nat.le_of_ble_eq_true rfl) rfl (k_X7_foundNames (d + 2) (T := T) (σ := σ6) (a := x1) hk3o w12 ) (fun r16 T18 σ17 gt19 hp => ?_)
      obtain ⟨v21, rfl, rfl, rfl, f20⟩ := hp
      clear gt19
      show Tn _ _ 23 T σ6 [(0, .ref a), (1, .int (iI k)), (2, .int (iI m))] [.int (iI v21), .int (iI m)] _
      refine tn_icmp_lt (tgt := 28) dX11_value_23 (by decide) ⟨by omega, by omega⟩ ⟨by omega, by omega⟩ (fun h22 => ?_) (fun h22 => ?_)
      · refine tn_aload_n dX11_value_28 rfl 0 rfl ?_
        obtain ⟨x23, hx24, hk25⟩ : ∃ x : Nat, σ.2.1 102 a = (x : Int) ∧ (T x).1 = 40 := wf_102 hw ha
        have hk25o : OB T x23 10 := ⟨by omega, by rw [hk25]; rfl, by omega⟩
        refine tn_getR (ci := 11) (i := 7) (n := 102) (x := x23) dX11_value_29 rfl lay_11 (by decide) fl11_39 ha rfl rfl (rc_F F13 (Or.inl (by decide)) (by decide) (hx24)) ?_
        refine tn_aload_n dX11_value_32 rfl 0 rfl ?_
        refine tn_getR (ci := 11) (i := 8) (n := 103) (x := x1) dX11_value_33 rfl lay_11 (by decide) fl11_83 ha rfl rfl (rc_F F13 (Or.inl (by decide)) (by decide) (hx2)) ?_
        refine tn_callV (M := m_X11_value) (pc := 36) (ix := 227) (ci := 7) (M' := m_X7_foundSource) (As := []) (rest := [.ref x23]) dX11_value_36 ok_X7_foundSource im_X7_foundSource se_X7_foundSource ml11_227 np_X7_foundSource rfl rfl hk3o rfl (Nat.le_of_ble_eq_true rfl) (Nat.le_of_ble_eq_true rfl) rfl (k_X7_foundSource (d + 3) (T := T) (σ := σ6) (a := x1) hk3o w12 ) (fun r27 T29 σ28 gt30 hp => ?_)
        obtain ⟨v32, rfl, rfl, rfl, f31⟩ := hp
        clear gt30
        show Tn _ _ 39 T σ6 [(0, .ref a), (1, .int (iI k)), (2, .int (iI m))] [.int (iI v32), .ref x23] _
        refine tn_aload_n dX11_value_39 rfl 0 rfl ?_
        refine tn_getR (ci := 11) (i := 8) (n := 103) (x := x1) dX11_value_40 rfl lay_11 (by decide) fl11_83 ha rfl rfl (rc_F F13 (Or.inl (by decide)) (by decide) (hx2)) ?_
        refine tn_callV (M := m_X11_value) (pc := 43) (ix := 230) (ci := 7) (M' := m_X7_foundCode) (As := []) (rest := [.int (iI v32), .ref x23]) dX11_value_43 ok_X7_foundCode im_X7_foundCode se_X7_foundCode ml11_230 np_X7_foundCode rfl rfl hk3o rfl (Nat.le_of_ble_eq_true rfl) (Nat.le_of_ble_eq_true rfl) rfl (k_X7_foundCode (d + 3) (T := T) (σ := σ6) (a := x1) hk3o w12 ) (fun r33 T35 σ34 gt36 hp => ?_)
        obtain ⟨v38, rfl, rfl, rfl, rv39, f37⟩ := hp
        clear gt36
        clear f37
        rcases rv39 with rv39 | ⟨x40, rfl, hk41⟩
        · show Tn _ _ 46 T σ6 [(0, .ref a), (1, .int (iI k)), (2, .int (iI m))] (vl true v38 :: [.int (iI v32), .ref x23]) _
          rw [vl_null rv39]
          refine tn_callV (M := m_X11_value) (pc := 46) (ix := 176) (ci := 10) (M' := m_X10_refresh) (As := [.int (iI v32), .null]) (rest := []) dX11_value_46 ok_X10_refresh im_X10_refresh se_X10_refresh ml11_176 np_X10_refresh rfl rfl hk25o rfl (Nat.le_of_ble_eq_true rfl) (Nat.le_of_ble_eq_true rfl) rfl (k_X10_refresh_0 (d) (T := T) (σ := σ6) (a := x23) (r := v32) hk25o (by omega) w12 ) (fun r42 T44 σ43 gt45 hp => ?_)
          obtain ⟨rfl, w47, F48⟩ := hp
          replace ha : OB T44 a 11 := gt45.ob ha
          show Tn _ _ 49 T44 σ43 [(0, .ref a), (1, .int (iI k)), (2, .int (iI m))] [] _
          refine tn_aload_n dX11_value_49 rfl 0 rfl ?_
          obtain ⟨x49, hx50, hk51⟩ : ∃ x : Nat, σ43.2.1 103 a = (x : Int) ∧ (T44 x).1 = 37 := wf_103 w47 ha
          have hk51o : OB T44 x49 7 := ⟨by omega, by rw [hk51]; rfl, by omega⟩
          refine tn_getR (ci := 11) (i := 8) (n := 103) (x := x49) dX11_value_50 rfl lay_11 (by decide) fl11_83 ha rfl rfl (hx50) ?_
          refine tn_aload_n dX11_value_53 rfl 0 rfl ?_
          obtain ⟨x53, hx54, hk55⟩ : ∃ x : Nat, σ43.2.1 102 a = (x : Int) ∧ (T44 x).1 = 40 := wf_102 w47 ha
          have hk55o : OB T44 x53 10 := ⟨by omega, by rw [hk55]; rfl, by omega⟩
          refine tn_getR (ci := 11) (i := 7) (n := 102) (x := x53) dX11_value_54 rfl lay_11 (by decide) fl11_39 ha rfl rfl (hx54) ?_
          refine tn_aload_n dX11_value_57 rfl 0 rfl ?_
          refine tn_getR (ci := 11) (i := 8) (n := 103) (x := x49) dX11_value_58 rfl lay_11 (by decide) fl11_83 ha rfl rfl (hx50) ?_
          refine tn_aload_n dX11_value_61 rfl 0 rfl ?_
          refine tn_getR (ci := 11) (i := 7) (n := 102) (x := x53) dX11_value_62 rfl lay_11 (by decide) fl11_39 ha rfl rfl (hx54) ?_
          refine tn_iload_n dX11_value_65 rfl 2 rfl ?_
          refine tn_callV (M := m_X11_value) (pc := 66) (ix := 234) (ci := 7) (M' := m_X7_foundId) (As := [.ref x53, .int (iI m)]) (rest := [.ref x53, .ref x49]) dX11_value_66 ok_X7_foundId im_X7_foundId se_X7_foundId ml11_234 np_X7_foundId rfl rfl hk51o rfl (Nat.le_of_ble_eq_true rfl) (Nat.le_of_ble_eq_true rfl) rfl (k_X7_foundId (d + 1) (T := T44) (σ := σ43) (a := x49) (p1 := x53) (p2 := m) hk51o hk55o (by omega) w47 ) (fun r57 T59 σ58 gt60 hp => ?_)
          obtain ⟨v62, rfl, rfl, rfl, f61⟩ := hp
          clear gt60
          show Tn _ _ 69 T44 σ43 [(0, .ref a), (1, .int (iI k)), (2, .int (iI m))] [.int (iI v62), .ref x53, .ref x49] _
          refine tn_callV (M := m_X11_value) (pc := 69) (ix := 238) (ci := 7) (M' := m_X7_foundValue) (As := [.ref x53, .int (iI v62)]) (rest := []) dX11_value_69 ok_X7_foundValue im_X7_foundValue se_X7_foundValue ml11_238 np_X7_foundValue rfl rfl hk51o rfl (Nat.le_of_ble_eq_true rfl) (Nat.le_of_ble_eq_true rfl) rfl (k_X7_foundValue (d + 1) (T := T44) (σ := σ43) (a := x49) (p1 := x53) (p2 := v62) hk51o hk55o (by omega) w47 ) (fun r63 T65 σ64 gt66 hp => ?_)
          obtain ⟨v68, rfl, rfl, rfl, f67⟩ := hp
          clear gt66
          show Tn _ _ 72 T44 σ43 [(0, .ref a), (1, .int (iI k)), (2, .int (iI m))] [.int (iI v68)] _
          exact tn_iret rfl dX11_value_72 ⟨_, rfl, w47, ((FrC.rfl.trans (FrC.sub F13 (by decide))).trans (FrC.sub F48 (by decide))), by omega⟩
        · show Tn _ _ 46 T σ6 [(0, .ref a), (1, .int (iI k)), (2, .int (iI m))] (vl true (x40 : Int) :: [.int (iI v32), .ref x23]) _
          rw [vl_ref rfl]
          have hk41t : (T x40).1 = 50 := hk41.2.2 (by have q9 := hk3; omega)
          have hk41to : OB T x40 1 := ⟨by omega, by rw [hk41t]; rfl, by omega⟩
          refine tn_callV (M := m_X11_value) (pc := 46) (ix := 176) (ci := 10) (M' := m_X10_refresh) (As := [.int (iI v32), .ref x40]) (rest := []) dX11_value_46 ok_X10_refresh im_X10_refresh se_X10_refresh ml11_176 np_X10_refresh rfl rfl hk25o rfl (Nat.le_of_ble_eq_true rfl) (Nat.le_of_ble_eq_true rfl) rfl (k_X10_refresh (d) (T := T) (σ := σ6) (a := x23) (r := v32) (c := x40) hk25o (by omega) hk41to hk41t w12 ) (fun r69 T71 σ70 gt72 hp => ?_)
          obtain ⟨rfl, w74, F75⟩ := hp
          replace ha : OB T71 a 11 := gt72.ob ha
          show Tn _ _ 49 T71 σ70 [(0, .ref a), (1, .int (iI k)), (2, .int (iI m))] [] _
          refine tn_aload_n dX11_value_49 rfl 0 rfl ?_
          obtain ⟨x76, hx77, hk78⟩ : ∃ x : Nat, σ70.2.1 103 a = (x : Int) ∧ (T71 x).1 = 37 := wf_103 w74 ha
          have hk78o : OB T71 x76 7 := ⟨by omega, by rw [hk78]; rfl, by omega⟩
          refine tn_getR (ci := 11) (i := 8) (n := 103) (x := x76) dX11_value_50 rfl lay_11 (by decide) fl11_83 ha rfl rfl (hx77) ?_
          refine tn_aload_n dX11_value_53 rfl 0 rfl ?_
          obtain ⟨x80, hx81, hk82⟩ : ∃ x : Nat, σ70.2.1 102 a = (x : Int) ∧ (T71 x).1 = 40 := wf_102 w74 ha
          have hk82o : OB T71 x80 10 := ⟨by omega, by rw [hk82]; rfl, by omega⟩
          refine tn_getR (ci := 11) (i := 7) (n := 102) (x := x80) dX11_value_54 rfl lay_11 (by decide) fl11_39 ha rfl rfl (hx81) ?_
          refine tn_aload_n dX11_value_57 rfl 0 rfl ?_
          refine tn_getR (ci := 11) (i := 8) (n := 103) (x := x76) dX11_value_58 rfl lay_11 (by decide) fl11_83 ha rfl rfl (hx77) ?_
          refine tn_aload_n dX11_value_61 rfl 0 rfl ?_
          refine tn_getR (ci := 11) (i := 7) (n := 102) (x := x80) dX11_value_62 rfl lay_11 (by decide) fl11_39 ha rfl rfl (hx81) ?_
          refine tn_iload_n dX11_value_65 rfl 2 rfl ?_
          refine tn_callV (M := m_X11_value) (pc := 66) (ix := 234) (ci := 7) (M' := m_X7_foundId) (As := [.ref x80, .int (iI m)]) (rest := [.ref x80, .ref x76]) dX11_value_66 ok_X7_foundId im_X7_foundId se_X7_foundId ml11_234 np_X7_foundId rfl rfl hk78o rfl (Nat.le_of_ble_eq_true rfl) (Nat.le_of_ble_eq_true rfl) rfl (k_X7_foundId (d + 1) (T := T71) (σ := σ70) (a := x76) (p1 := x80) (p2 := m) hk78o hk82o (by omega) w74 ) (fun r84 T86 σ85 gt87 hp => ?_)
          obtain ⟨v89, rfl, rfl, rfl, f88⟩ := hp
          clear gt87
          show Tn _ _ 69 T71 σ70 [(0, .ref a), (1, .int (iI k)), (2, .int (iI m))] [.int (iI v89), .ref x80, .ref x76] _
          refine tn_callV (M := m_X11_value) (pc := 69) (ix := 238) (ci := 7) (M' := m_X7_foundValue) (As := [.ref x80, .int (iI v89)]) (rest := []) dX11_value_69 ok_X7_foundValue im_X7_foundValue se_X7_foundValue ml11_238 np_X7_foundValue rfl rfl hk78o rfl (Nat.le_of_ble_eq_true rfl) (Nat.le_of_ble_eq_true rfl) rfl (k_X7_foundValue (d + 1) (T := T71) (σ := σ70) (a := x76) (p1 := x80) (p2 := v89) hk78o hk82o (by omega) w74 ) (fun r90 T92 σ91 gt93 hp => ?_)
          obtain ⟨v95, rfl, rfl, rfl, f94⟩ := hp
          clear gt93
          show Tn _ _ 72 T71 σ70 [(0, .ref a), (1, .int (iI k)), (2, .int (iI m))] [.int (iI v95)] _
          exact tn_iret rfl dX11_value_72 ⟨_, rfl, w74, ((FrC.rfl.trans (FrC.sub F13 (by decide))).trans (FrC.sub F75 (by decide))), by omega⟩
      · refine tn_iconst dX11_value_26 ?_
        exact tn_iret rfl dX11_value_27 ⟨_, rfl, w12, (FrC.rfl.trans (FrC.sub F13 (by decide))), by omega⟩
end
section
theorem cd_X11_run : Cond.code yX11_run cX11_run 2 (some .int) ∈ pWW := pw6 (List.mem_of_getElem? (i := 162) rfl) rfl
abbrev m_X11_run : MT := (yX11_run, cX11_run, 2, (some .int))
theorem ok_X11_run : pOk m_X11_run := ⟨⟨cd_X11_run, ini_11⟩, by decide +kernel, ⟨by decide +kernel, by decide +kernel⟩, Nat.le_of_ble_eq_true rfl⟩
theorem np_X11_run : (parseMethodDescriptor yX11_run.desc).map (fun d => d.parameters.length) = some 1 := by decide +kernel
theorem im_X11_run : Cond.instanceMethod yX11_run ∈ pWW := pw6 (List.mem_of_getElem? (i := 160) rfl) rfl
theorem se_X11_run : Cond.selects RX11 yX11_run yX11_run ∈ pWW := pw6 (List.mem_of_getElem? (i := 161) rfl) rfl
theorem ml11_241 : Cond.methodLink RX11 241 yX7_place ∈ pWW := pw6 (List.mem_of_getElem? (i := 163) rfl) rfl
theorem fl11_243 : Cond.fieldLink RX11 243 (TX7 10).1 (TX7 10).2.1 (TX7 10).2.2.1 ∈ pWW := pw2 (List.mem_of_getElem? (i := 150) rfl) rfl
theorem fl11_246 : Cond.fieldLink RX11 246 (TX7 12).1 (TX7 12).2.1 (TX7 12).2.2.1 ∈ pWW := pw2 (List.mem_of_getElem? (i := 154) rfl) rfl
theorem fl11_249 : Cond.fieldLink RX11 249 (TX7 13).1 (TX7 13).2.1 (TX7 13).2.2.1 ∈ pWW := pw2 (List.mem_of_getElem? (i := 157) rfl) rfl
theorem fl11_252 : Cond.fieldLink RX11 252 (TX7 3).1 (TX7 3).2.1 (TX7 3).2.2.1 ∈ pWW := pw2 (List.mem_of_getElem? (i := 140) rfl) rfl
theorem dX11_run_0 : decode cX11_run 0 = .ok (.aload_n 0, 1) := by decide +kernel
theorem dX11_run_1 : decode cX11_run 1 = .ok (.getfield 83, 3) := by decide +kernel
theorem dX11_run_4 : decode cX11_run 4 = .ok (.getfield 208, 3) := by decide +kernel
theorem dX11_run_7 : decode cX11_run 7 = .ok (.ifCond .ne 5, 3) := by decide +kernel
theorem dX11_run_12 : decode cX11_run 12 = .ok (.iload_n 1, 1) := by decide +kernel
theorem dX11_run_13 : decode cX11_run 13 = .ok (.tableswitch 111 0 5 #[39, 62, 70, 78, 86, 94], 39) := by decide +kernel
theorem dX11_run_124 : decode cX11_run 124 = .ok (.iconst (-1), 1) := by decide +kernel
theorem dX11_run_125 : decode cX11_run 125 = .ok (.ireturn, 1) := by decide +kernel
theorem dX11_run_52 : decode cX11_run 52 = .ok (.aload_n 0, 1) := by decide +kernel
theorem dX11_run_53 : decode cX11_run 53 = .ok (.getfield 83, 3) := by decide +kernel
theorem dX11_run_56 : decode cX11_run 56 = .ok (.getfield 208, 3) := by decide +kernel
theorem dX11_run_59 : decode cX11_run 59 = .ok (.iconst 2, 1) := by decide +kernel
theorem dX11_run_60 : decode cX11_run 60 = .ok (.if_icmp .ne 7, 3) := by decide +kernel
theorem dX11_run_67 : decode cX11_run 67 = .ok (.aload_n 0, 1) := by decide +kernel
theorem dX11_run_68 : decode cX11_run 68 = .ok (.getfield 83, 3) := by decide +kernel
theorem dX11_run_71 : decode cX11_run 71 = .ok (.invokevirtual 241, 3) := by decide +kernel
theorem dX11_run_74 : decode cX11_run 74 = .ok (.ireturn, 1) := by decide +kernel
theorem dX11_run_63 : decode cX11_run 63 = .ok (.iconst (-1), 1) := by decide +kernel
theorem dX11_run_64 : decode cX11_run 64 = .ok (.goto 10, 3) := by decide +kernel
theorem dX11_run_75 : decode cX11_run 75 = .ok (.aload_n 0, 1) := by decide +kernel
theorem dX11_run_76 : decode cX11_run 76 = .ok (.getfield 83, 3) := by decide +kernel
theorem dX11_run_79 : decode cX11_run 79 = .ok (.getfield 243, 3) := by decide +kernel
theorem dX11_run_82 : decode cX11_run 82 = .ok (.ireturn, 1) := by decide +kernel
theorem dX11_run_83 : decode cX11_run 83 = .ok (.aload_n 0, 1) := by decide +kernel
theorem dX11_run_84 : decode cX11_run 84 = .ok (.getfield 83, 3) := by decide +kernel
theorem dX11_run_87 : decode cX11_run 87 = .ok (.getfield 246, 3) := by decide +kernel
theorem dX11_run_90 : decode cX11_run 90 = .ok (.ireturn, 1) := by decide +kernel
theorem dX11_run_91 : decode cX11_run 91 = .ok (.aload_n 0, 1) := by decide +kernel
theorem dX11_run_92 : decode cX11_run 92 = .ok (.getfield 83, 3) := by decide +kernel
theorem dX11_run_95 : decode cX11_run 95 = .ok (.getfield 249, 3) := by decide +kernel
theorem dX11_run_98 : decode cX11_run 98 = .ok (.ireturn, 1) := by decide +kernel
theorem dX11_run_99 : decode cX11_run 99 = .ok (.aload_n 0, 1) := by decide +kernel
theorem dX11_run_100 : decode cX11_run 100 = .ok (.getfield 83, 3) := by decide +kernel
theorem dX11_run_103 : decode cX11_run 103 = .ok (.getfield 252, 3) := by decide +kernel
theorem dX11_run_106 : decode cX11_run 106 = .ok (.ireturn, 1) := by decide +kernel
theorem dX11_run_107 : decode cX11_run 107 = .ok (.aload_n 0, 1) := by decide +kernel
theorem dX11_run_108 : decode cX11_run 108 = .ok (.getfield 83, 3) := by decide +kernel
theorem dX11_run_111 : decode cX11_run 111 = .ok (.getfield 208, 3) := by decide +kernel
theorem dX11_run_114 : decode cX11_run 114 = .ok (.iconst 3, 1) := by decide +kernel
theorem dX11_run_115 : decode cX11_run 115 = .ok (.if_icmp .ne 7, 3) := by decide +kernel
theorem dX11_run_122 : decode cX11_run 122 = .ok (.iconst 0, 1) := by decide +kernel
theorem dX11_run_123 : decode cX11_run 123 = .ok (.ireturn, 1) := by decide +kernel
theorem dX11_run_118 : decode cX11_run 118 = .ok (.iconst 1, 1) := by decide +kernel
theorem dX11_run_119 : decode cX11_run 119 = .ok (.goto 4, 3) := by decide +kernel
theorem dX11_run_10 : decode cX11_run 10 = .ok (.iconst (-1), 1) := by decide +kernel
theorem dX11_run_11 : decode cX11_run 11 = .ok (.ireturn, 1) := by decide +kernel
set_option maxRecDepth 20000 in
theorem k_X11_run (d : Nat) {T : CT} {σ : MS} {a : Nat} {w : Int} (ha : OB T a 11) (h_w : -2147483648 ≤ w ∧ w ≤ 2147483647) (hw : WT T σ) : Tn (d + 3) m_X11_run 0 T σ [(0, .ref a), (1, .int (iI w))] [] (fun ro T2 σ2 => ∃ v : Int, ro = some (.int (iI v)) ∧ T = T2 ∧ σ = σ2 ∧ (-2147483648 ≤ v ∧ v ≤ 2147483647)) := by
  refine tn_aload_n dX11_run_0 rfl 0 rfl ?_
  obtain ⟨x1, hx2, hk3⟩ : ∃ x : Nat, σ.2.1 103 a = (x : Int) ∧ (T x).1 = 37 := wf_103 hw ha
  have hk3o : OB T x1 7 := ⟨by omega, by rw [hk3]; rfl, by omega⟩
  refine tn_getR (ci := 11) (i := 8) (n := 103) (x := x1) dX11_run_1 rfl lay_11 (by decide) fl11_83 ha rfl rfl (hx2) ?_
  refine tn_getI (ci := 7) (i := 1) (n := 56) (t := σ.2.1 56 x1) dX11_run_4 rfl lay_7 (by decide) fl11_208 hk3o rfl rfl (rfl) ?_
  have g5 : ((-2147483648 : Int) ≤ σ.2.1 56 x1 ∧ σ.2.1 56 x1 ≤ 2147483647) := wf_56 hw hk3o
  refine tn_if_ne (tgt := 12) dX11_run_7 (by decide) ⟨by omega, by omega⟩ (fun h6 => ?_) (fun h6 => ?_)
  · refine tn_iload_n dX11_run_12 rfl 1 rfl ?_
    by_cases h7 : w < 0 ∨ 5 < w
    · refine tn_tableOut (tgt := 124) dX11_run_13 (x := w) ⟨by omega, by omega⟩ h7 (by decide) ?_
      refine tn_iconst dX11_run_124 ?_
      exact tn_iret rfl dX11_run_125 ⟨_, rfl, rfl, rfl, by omega⟩
    · have h8 : w = 0 ∨ w = 1 ∨ w = 2 ∨ w = 3 ∨ w = 4 ∨ w = 5 := by omega
      rcases h8 with h8 | h8 | h8 | h8 | h8 | h8
      · refine tn_tableIn (tgt := 52) (off := 39) dX11_run_13 (x := w) ⟨by omega, by omega⟩ (by omega) (by omega) (by rw [h8]; rfl) (by decide) ?_
        refine tn_aload_n dX11_run_52 rfl 0 rfl ?_
        refine tn_getR (ci := 11) (i := 8) (n := 103) (x := x1) dX11_run_53 rfl lay_11 (by decide) fl11_83 ha rfl rfl (hx2) ?_
        refine tn_getI (ci := 7) (i := 1) (n := 56) (t := σ.2.1 56 x1) dX11_run_56 rfl lay_7 (by decide) fl11_208 hk3o rfl rfl (rfl) ?_
        refine tn_iconst dX11_run_59 ?_
        refine tn_icmp_ne (tgt := 67) dX11_run_60 (by decide) ⟨by omega, by omega⟩ ⟨by decide, by decide⟩ (fun h9 => ?_) (fun h9 => ?_)
        · refine tn_aload_n dX11_run_67 rfl 0 rfl ?_
          refine tn_getR (ci := 11) (i := 8) (n := 103) (x := x1) dX11_run_68 rfl lay_11 (by decide) fl11_83 ha rfl rfl (hx2) ?_
          refine tn_callV (M := m_X11_run) (pc := 71) (ix := 241) (ci := 7) (M' := m_X7_place) (As := []) (rest := []) dX11_run_71 ok_X7_place im_X7_place se_X7_place ml11_241 np_X7_place rfl rfl hk3o rfl (Nat.le_of_ble_eq_true rfl) (Nat.le_of_ble_eq_true rfl) rfl (k_X7_place (d) (T := T) (σ := σ) (a := x1) hk3o hw ) (fun r10 T12 σ11 gt13 hp => ?_)
          obtain ⟨v15, rfl, rfl, rfl, f14⟩ := hp
          clear gt13
          show Tn _ _ 74 T σ [(0, .ref a), (1, .int (iI w))] [.int (iI v15)] _
          exact tn_iret rfl dX11_run_74 ⟨_, rfl, rfl, rfl, by omega⟩
        · refine tn_iconst dX11_run_63 ?_
          refine tn_goto (tgt := 74) dX11_run_64 (by decide) ?_
          exact tn_iret rfl dX11_run_74 ⟨_, rfl, rfl, rfl, by omega⟩
      · refine tn_tableIn (tgt := 75) (off := 62) dX11_run_13 (x := w) ⟨by omega, by omega⟩ (by omega) (by omega) (by rw [h8]; rfl) (by decide) ?_
        refine tn_aload_n dX11_run_75 rfl 0 rfl ?_
        refine tn_getR (ci := 11) (i := 8) (n := 103) (x := x1) dX11_run_76 rfl lay_11 (by decide) fl11_83 ha rfl rfl (hx2) ?_
        refine tn_getI (ci := 7) (i := 10) (n := 65) (t := σ.2.1 65 x1) dX11_run_79 rfl lay_7 (by decide) fl11_243 hk3o rfl rfl (rfl) ?_
        have g16 : ((-2147483648 : Int) ≤ σ.2.1 65 x1 ∧ σ.2.1 65 x1 ≤ 2147483647) := wf_65 hw hk3o
        exact tn_iret rfl dX11_run_82 ⟨_, rfl, rfl, rfl, by omega⟩
      · refine tn_tableIn (tgt := 83) (off := 70) dX11_run_13 (x := w) ⟨by omega, by omega⟩ (by omega) (by omega) (by rw [h8]; rfl) (by decide) ?_
        refine tn_aload_n dX11_run_83 rfl 0 rfl ?_
        refine tn_getR (ci := 11) (i := 8) (n := 103) (x := x1) dX11_run_84 rfl lay_11 (by decide) fl11_83 ha rfl rfl (hx2) ?_
        refine tn_getI (ci := 7) (i := 12) (n := 67) (t := σ.2.1 67 x1) dX11_run_87 rfl lay_7 (by decide) fl11_246 hk3o rfl rfl (rfl) ?_
        have g17 : ((-2147483648 : Int) ≤ σ.2.1 67 x1 ∧ σ.2.1 67 x1 ≤ 2147483647) := wf_67 hw hk3o
        exact tn_iret rfl dX11_run_90 ⟨_, rfl, rfl, rfl, by omega⟩
      · refine tn_tableIn (tgt := 91) (off := 78) dX11_run_13 (x := w) ⟨by omega, by omega⟩ (by omega) (by omega) (by rw [h8]; rfl) (by decide) ?_
        refine tn_aload_n dX11_run_91 rfl 0 rfl ?_
        refine tn_getR (ci := 11) (i := 8) (n := 103) (x := x1) dX11_run_92 rfl lay_11 (by decide) fl11_83 ha rfl rfl (hx2) ?_
        refine tn_getI (ci := 7) (i := 13) (n := 68) (t := σ.2.1 68 x1) dX11_run_95 rfl lay_7 (by decide) fl11_249 hk3o rfl rfl (rfl) ?_
        have g18 : ((-2147483648 : Int) ≤ σ.2.1 68 x1 ∧ σ.2.1 68 x1 ≤ 2147483647) := wf_68 hw hk3o
        exact tn_iret rfl dX11_run_98 ⟨_, rfl, rfl, rfl, by omega⟩
      · refine tn_tableIn (tgt := 99) (off := 86) dX11_run_13 (x := w) ⟨by omega, by omega⟩ (by omega) (by omega) (by rw [h8]; rfl) (by decide) ?_
        refine tn_aload_n dX11_run_99 rfl 0 rfl ?_
        refine tn_getR (ci := 11) (i := 8) (n := 103) (x := x1) dX11_run_100 rfl lay_11 (by decide) fl11_83 ha rfl rfl (hx2) ?_
        refine tn_getI (ci := 7) (i := 3) (n := 58) (t := σ.2.1 58 x1) dX11_run_103 rfl lay_7 (by decide) fl11_252 hk3o rfl rfl (rfl) ?_
        have g19 : ((-2147483648 : Int) ≤ σ.2.1 58 x1 ∧ σ.2.1 58 x1 ≤ 2147483647) := wf_58 hw hk3o
        exact tn_iret rfl dX11_run_106 ⟨_, rfl, rfl, rfl, by omega⟩
      · refine tn_tableIn (tgt := 107) (off := 94) dX11_run_13 (x := w) ⟨by omega, by omega⟩ (by omega) (by omega) (by rw [h8]; rfl) (by decide) ?_
        refine tn_aload_n dX11_run_107 rfl 0 rfl ?_
        refine tn_getR (ci := 11) (i := 8) (n := 103) (x := x1) dX11_run_108 rfl lay_11 (by decide) fl11_83 ha rfl rfl (hx2) ?_
        refine tn_getI (ci := 7) (i := 1) (n := 56) (t := σ.2.1 56 x1) dX11_run_111 rfl lay_7 (by decide) fl11_208 hk3o rfl rfl (rfl) ?_
        refine tn_iconst dX11_run_114 ?_
        refine tn_icmp_ne (tgt := 122) dX11_run_115 (by decide) ⟨by omega, by omega⟩ ⟨by decide, by decide⟩ (fun h20 => ?_) (fun h20 => ?_)
        · refine tn_iconst dX11_run_122 ?_
          exact tn_iret rfl dX11_run_123 ⟨_, rfl, rfl, rfl, by omega⟩
        · refine tn_iconst dX11_run_118 ?_
          refine tn_goto (tgt := 123) dX11_run_119 (by decide) ?_
          exact tn_iret rfl dX11_run_123 ⟨_, rfl, rfl, rfl, by omega⟩
  · refine tn_iconst dX11_run_10 ?_
    exact tn_iret rfl dX11_run_11 ⟨_, rfl, rfl, rfl, by omega⟩
end
section
theorem cd_X11_printed : Cond.code yX11_printed cX11_printed 2 (some .int) ∈ pWW := pw6 (List.mem_of_getElem? (i := 167) rfl) rfl
abbrev m_X11_printed : MT := (yX11_printed, cX11_printed, 2, (some .int))
theorem ok_X11_printed : pOk m_X11_printed := ⟨⟨cd_X11_printed, ini_11⟩, by decide +kernel, ⟨by decide +kernel, by decide +kernel⟩, Nat.le_of_ble_eq_true rfl⟩
theorem np_X11_printed : (parseMethodDescriptor yX11_printed.desc).map (fun d => d.parameters.length) = some 1 := by decide +kernel
theorem im_X11_printed : Cond.instanceMethod yX11_printed ∈ pWW := pw6 (List.mem_of_getElem? (i := 165) rfl) rfl
theorem se_X11_printed : Cond.selects RX11 yX11_printed yX11_printed ∈ pWW := pw6 (List.mem_of_getElem? (i := 166) rfl) rfl
theorem fl11_255 : Cond.fieldLink RX11 255 (TX7 9).1 (TX7 9).2.1 (TX7 9).2.2.1 ∈ pWW := pw2 (List.mem_of_getElem? (i := 147) rfl) rfl
theorem dX11_printed_0 : decode cX11_printed 0 = .ok (.aload_n 0, 1) := by decide +kernel
theorem dX11_printed_1 : decode cX11_printed 1 = .ok (.getfield 83, 3) := by decide +kernel
theorem dX11_printed_4 : decode cX11_printed 4 = .ok (.getfield 208, 3) := by decide +kernel
theorem dX11_printed_7 : decode cX11_printed 7 = .ok (.ifCond .eq 18, 3) := by decide +kernel
theorem dX11_printed_25 : decode cX11_printed 25 = .ok (.iconst 0, 1) := by decide +kernel
theorem dX11_printed_26 : decode cX11_printed 26 = .ok (.ireturn, 1) := by decide +kernel
theorem dX11_printed_10 : decode cX11_printed 10 = .ok (.iload_n 1, 1) := by decide +kernel
theorem dX11_printed_11 : decode cX11_printed 11 = .ok (.ifCond .lt 14, 3) := by decide +kernel
theorem dX11_printed_14 : decode cX11_printed 14 = .ok (.iload_n 1, 1) := by decide +kernel
theorem dX11_printed_15 : decode cX11_printed 15 = .ok (.aload_n 0, 1) := by decide +kernel
theorem dX11_printed_16 : decode cX11_printed 16 = .ok (.getfield 83, 3) := by decide +kernel
theorem dX11_printed_19 : decode cX11_printed 19 = .ok (.getfield 243, 3) := by decide +kernel
theorem dX11_printed_22 : decode cX11_printed 22 = .ok (.if_icmp .lt 5, 3) := by decide +kernel
theorem dX11_printed_27 : decode cX11_printed 27 = .ok (.aload_n 0, 1) := by decide +kernel
theorem dX11_printed_28 : decode cX11_printed 28 = .ok (.getfield 83, 3) := by decide +kernel
theorem dX11_printed_31 : decode cX11_printed 31 = .ok (.getfield 255, 3) := by decide +kernel
theorem dX11_printed_34 : decode cX11_printed 34 = .ok (.iload_n 1, 1) := by decide +kernel
theorem dX11_printed_35 : decode cX11_printed 35 = .ok (.invokestatic 162, 3) := by decide +kernel
theorem dX11_printed_38 : decode cX11_printed 38 = .ok (.ireturn, 1) := by decide +kernel
set_option maxRecDepth 20000 in
theorem k_X11_printed (d : Nat) {T : CT} {σ : MS} {a : Nat} {i : Int} (ha : OB T a 11) (h_i : -2147483648 ≤ i ∧ i ≤ 2147483647) (hw : WT T σ) : Tn (d + 2) m_X11_printed 0 T σ [(0, .ref a), (1, .int (iI i))] [] (fun ro T2 σ2 => ∃ v : Int, ro = some (.int (iI v)) ∧ T = T2 ∧ σ = σ2 ∧ (-2147483648 ≤ v ∧ v ≤ 2147483647)) := by
  refine tn_aload_n dX11_printed_0 rfl 0 rfl ?_
  obtain ⟨x1, hx2, hk3⟩ : ∃ x : Nat, σ.2.1 103 a = (x : Int) ∧ (T x).1 = 37 := wf_103 hw ha
  have hk3o : OB T x1 7 := ⟨by omega, by rw [hk3]; rfl, by omega⟩
  refine tn_getR (ci := 11) (i := 8) (n := 103) (x := x1) dX11_printed_1 rfl lay_11 (by decide) fl11_83 ha rfl rfl (hx2) ?_
  refine tn_getI (ci := 7) (i := 1) (n := 56) (t := σ.2.1 56 x1) dX11_printed_4 rfl lay_7 (by decide) fl11_208 hk3o rfl rfl (rfl) ?_
  have g5 : ((-2147483648 : Int) ≤ σ.2.1 56 x1 ∧ σ.2.1 56 x1 ≤ 2147483647) := wf_56 hw hk3o
  refine tn_if_eq (tgt := 25) dX11_printed_7 (by decide) ⟨by omega, by omega⟩ (fun h6 => ?_) (fun h6 => ?_)
  · refine tn_iconst dX11_printed_25 ?_
    exact tn_iret rfl dX11_printed_26 ⟨_, rfl, rfl, rfl, by omega⟩
  · refine tn_iload_n dX11_printed_10 rfl 1 rfl ?_
    refine tn_if_lt (tgt := 25) dX11_printed_11 (by decide) ⟨by omega, by omega⟩ (fun h7 => ?_) (fun h7 => ?_)
    · refine tn_iconst dX11_printed_25 ?_
      exact tn_iret rfl dX11_printed_26 ⟨_, rfl, rfl, rfl, by omega⟩
    · refine tn_iload_n dX11_printed_14 rfl 1 rfl ?_
      refine tn_aload_n dX11_printed_15 rfl 0 rfl ?_
      refine tn_getR (ci := 11) (i := 8) (n := 103) (x := x1) dX11_printed_16 rfl lay_11 (by decide) fl11_83 ha rfl rfl (hx2) ?_
      refine tn_getI (ci := 7) (i := 10) (n := 65) (t := σ.2.1 65 x1) dX11_printed_19 rfl lay_7 (by decide) fl11_243 hk3o rfl rfl (rfl) ?_
      have g8 : ((-2147483648 : Int) ≤ σ.2.1 65 x1 ∧ σ.2.1 65 x1 ≤ 2147483647) := wf_65 hw hk3o
      refine tn_icmp_lt (tgt := 27) dX11_printed_22 (by decide) ⟨by omega, by omega⟩ ⟨by omega, by omega⟩ (fun h9 => ?_) (fun h9 => ?_)
      · refine tn_aload_n dX11_printed_27 rfl 0 rfl ?_
        refine tn_getR (ci := 11) (i := 8) (n := 103) (x := x1) dX11_printed_28 rfl lay_11 (by decide) fl11_83 ha rfl rfl (hx2) ?_
        obtain ⟨x10, hx11, hk12, hl13⟩ : ∃ x : Nat, σ.2.1 64 x1 = (x : Int) ∧ AR T x 1 200 200 := wf_64 hw hk3o
        have hk12i : IA T x10 := by unfold IA; omega
        refine tn_getR (ci := 7) (i := 9) (n := 64) (x := x10) dX11_printed_31 rfl lay_7 (by decide) fl11_255 hk3o rfl rfl (hx11) ?_
        refine tn_iload_n dX11_printed_34 rfl 1 rfl ?_
        refine tn_callS (M := m_X11_printed) (pc := 35) (ix := 162) (M' := m_X11_at) (As := [.ref x10, .int (iI i)]) (rest := []) dX11_printed_35 ok_X11_at stt_X11_at ml11_162 np_X11_at rfl (Nat.le_of_ble_eq_true rfl) (Nat.le_of_ble_eq_true rfl) rfl (k_X11_at (d) (T := T) (σ := σ) (x := x10) (i := i) hk12i (by omega) (by omega) hw ) (fun r14 T16 σ15 gt17 hp => ?_)
        obtain ⟨v21, rfl, rfl, rfl, f18, f19, f20⟩ := hp
        clear gt17
        clear f19 f20
        show Tn _ _ 38 T σ [(0, .ref a), (1, .int (iI i))] [.int (iI v21)] _
        exact tn_iret rfl dX11_printed_38 ⟨_, rfl, rfl, rfl, by omega⟩
      · refine tn_iconst dX11_printed_25 ?_
        exact tn_iret rfl dX11_printed_26 ⟨_, rfl, rfl, rfl, by omega⟩
end
section
theorem cd_X11_compared : Cond.code yX11_compared cX11_compared 2 (some .int) ∈ pWW := pw6 (List.mem_of_getElem? (i := 237) rfl) rfl
abbrev m_X11_compared : MT := (yX11_compared, cX11_compared, 2, (some .int))
theorem ok_X11_compared : pOk m_X11_compared := ⟨⟨cd_X11_compared, ini_11⟩, by decide +kernel, ⟨by decide +kernel, by decide +kernel⟩, Nat.le_of_ble_eq_true rfl⟩
theorem np_X11_compared : (parseMethodDescriptor yX11_compared.desc).map (fun d => d.parameters.length) = some 1 := by decide +kernel
theorem im_X11_compared : Cond.instanceMethod yX11_compared ∈ pWW := pw6 (List.mem_of_getElem? (i := 235) rfl) rfl
theorem se_X11_compared : Cond.selects RX11 yX11_compared yX11_compared ∈ pWW := pw6 (List.mem_of_getElem? (i := 236) rfl) rfl
theorem fl11_258 : Cond.fieldLink RX11 258 (TX11 15).1 (TX11 15).2.1 (TX11 15).2.2.1 ∈ pWW := pw2 (List.mem_of_getElem? (i := 211) rfl) rfl
theorem fl11_276 : Cond.fieldLink RX11 276 (TX0 2).1 (TX0 2).2.1 (TX0 2).2.2.1 ∈ pWW := pw6 (List.mem_of_getElem? (i := 185) rfl) rfl
theorem fl11_279 : Cond.fieldLink RX11 279 (TX0 3).1 (TX0 3).2.1 (TX0 3).2.2.1 ∈ pWW := pw6 (List.mem_of_getElem? (i := 187) rfl) rfl
theorem fl11_282 : Cond.fieldLink RX11 282 (TX0 4).1 (TX0 4).2.1 (TX0 4).2.2.1 ∈ pWW := pw6 (List.mem_of_getElem? (i := 189) rfl) rfl
theorem dX11_compared_0 : decode cX11_compared 0 = .ok (.aload_n 0, 1) := by decide +kernel
theorem dX11_compared_1 : decode cX11_compared 1 = .ok (.getfield 258, 3) := by decide +kernel
theorem dX11_compared_4 : decode cX11_compared 4 = .ok (.ifnonnull 5, 3) := by decide +kernel
theorem dX11_compared_7 : decode cX11_compared 7 = .ok (.iconst (-1), 1) := by decide +kernel
theorem dX11_compared_8 : decode cX11_compared 8 = .ok (.ireturn, 1) := by decide +kernel
theorem dX11_compared_9 : decode cX11_compared 9 = .ok (.iload_n 1, 1) := by decide +kernel
theorem dX11_compared_10 : decode cX11_compared 10 = .ok (.tableswitch 50 0 2 #[26, 34, 42], 26) := by decide +kernel
theorem dX11_compared_60 : decode cX11_compared 60 = .ok (.iconst (-1), 1) := by decide +kernel
theorem dX11_compared_61 : decode cX11_compared 61 = .ok (.ireturn, 1) := by decide +kernel
theorem dX11_compared_36 : decode cX11_compared 36 = .ok (.aload_n 0, 1) := by decide +kernel
theorem dX11_compared_37 : decode cX11_compared 37 = .ok (.getfield 258, 3) := by decide +kernel
theorem dX11_compared_40 : decode cX11_compared 40 = .ok (.getfield 276, 3) := by decide +kernel
theorem dX11_compared_43 : decode cX11_compared 43 = .ok (.ireturn, 1) := by decide +kernel
theorem dX11_compared_44 : decode cX11_compared 44 = .ok (.aload_n 0, 1) := by decide +kernel
theorem dX11_compared_45 : decode cX11_compared 45 = .ok (.getfield 258, 3) := by decide +kernel
theorem dX11_compared_48 : decode cX11_compared 48 = .ok (.getfield 279, 3) := by decide +kernel
theorem dX11_compared_51 : decode cX11_compared 51 = .ok (.ireturn, 1) := by decide +kernel
theorem dX11_compared_52 : decode cX11_compared 52 = .ok (.aload_n 0, 1) := by decide +kernel
theorem dX11_compared_53 : decode cX11_compared 53 = .ok (.getfield 258, 3) := by decide +kernel
theorem dX11_compared_56 : decode cX11_compared 56 = .ok (.getfield 282, 3) := by decide +kernel
theorem dX11_compared_59 : decode cX11_compared 59 = .ok (.ireturn, 1) := by decide +kernel
set_option maxRecDepth 20000 in
theorem k_X11_compared (d : Nat) {T : CT} {σ : MS} {a : Nat} {w : Int} (ha : OB T a 11) (h_w : -2147483648 ≤ w ∧ w ≤ 2147483647) (hw : WT T σ) : Tn (d + 1) m_X11_compared 0 T σ [(0, .ref a), (1, .int (iI w))] [] (fun ro T2 σ2 => ∃ v : Int, ro = some (.int (iI v)) ∧ T = T2 ∧ σ = σ2 ∧ (-2147483648 ≤ v ∧ v ≤ 2147483647)) := by
  refine tn_aload_n dX11_compared_0 rfl 0 rfl ?_
  rcases wf_110 hw ha with hx1 | ⟨x2, hx1, hk3⟩
  · refine tn_getN (ci := 11) (i := 15) (n := 110) dX11_compared_1 rfl lay_11 (by decide) fl11_258 ha rfl rfl (Int.lt_of_le_of_lt (Int.le_of_eq (Eq.refl _)) hx1) ?_
    refine tn_ifnonnullN dX11_compared_4 ?_
    refine tn_iconst dX11_compared_7 ?_
    exact tn_iret rfl dX11_compared_8 ⟨_, rfl, rfl, rfl, by omega⟩
  · have hk3o : OB T x2 0 := ⟨by omega, by rw [hk3]; rfl, by omega⟩
    refine tn_getR (ci := 11) (i := 15) (n := 110) (x := x2) dX11_compared_1 rfl lay_11 (by decide) fl11_258 ha rfl rfl (hx1) ?_
    refine tn_ifnonnull (tgt := 9) dX11_compared_4 (by decide) ?_
    refine tn_iload_n dX11_compared_9 rfl 1 rfl ?_
    by_cases h5 : w < 0 ∨ 2 < w
    · refine tn_tableOut (tgt := 60) dX11_compared_10 (x := w) ⟨by omega, by omega⟩ h5 (by decide) ?_
      refine tn_iconst dX11_compared_60 ?_
      exact tn_iret rfl dX11_compared_61 ⟨_, rfl, rfl, rfl, by omega⟩
    · have h6 : w = 0 ∨ w = 1 ∨ w = 2 := by omega
      rcases h6 with h6 | h6 | h6
      · refine tn_tableIn (tgt := 36) (off := 26) dX11_compared_10 (x := w) ⟨by omega, by omega⟩ (by omega) (by omega) (by rw [h6]; rfl) (by decide) ?_
        refine tn_aload_n dX11_compared_36 rfl 0 rfl ?_
        refine tn_getR (ci := 11) (i := 15) (n := 110) (x := x2) dX11_compared_37 rfl lay_11 (by decide) fl11_258 ha rfl rfl (hx1) ?_
        refine tn_getI (ci := 0) (i := 2) (n := 2) (t := σ.2.1 2 x2) dX11_compared_40 rfl lay_0 (by decide) fl11_276 hk3o rfl rfl (rfl) ?_
        have g7 : ((-2147483648 : Int) ≤ σ.2.1 2 x2 ∧ σ.2.1 2 x2 ≤ 2147483647) := wf_2 hw hk3o
        exact tn_iret rfl dX11_compared_43 ⟨_, rfl, rfl, rfl, by omega⟩
      · refine tn_tableIn (tgt := 44) (off := 34) dX11_compared_10 (x := w) ⟨by omega, by omega⟩ (by omega) (by omega) (by rw [h6]; rfl) (by decide) ?_
        refine tn_aload_n dX11_compared_44 rfl 0 rfl ?_
        refine tn_getR (ci := 11) (i := 15) (n := 110) (x := x2) dX11_compared_45 rfl lay_11 (by decide) fl11_258 ha rfl rfl (hx1) ?_
        refine tn_getI (ci := 0) (i := 3) (n := 3) (t := σ.2.1 3 x2) dX11_compared_48 rfl lay_0 (by decide) fl11_279 hk3o rfl rfl (rfl) ?_
        have g8 : ((-2147483648 : Int) ≤ σ.2.1 3 x2 ∧ σ.2.1 3 x2 ≤ 2147483647) := wf_3 hw hk3o
        exact tn_iret rfl dX11_compared_51 ⟨_, rfl, rfl, rfl, by omega⟩
      · refine tn_tableIn (tgt := 52) (off := 42) dX11_compared_10 (x := w) ⟨by omega, by omega⟩ (by omega) (by omega) (by rw [h6]; rfl) (by decide) ?_
        refine tn_aload_n dX11_compared_52 rfl 0 rfl ?_
        refine tn_getR (ci := 11) (i := 15) (n := 110) (x := x2) dX11_compared_53 rfl lay_11 (by decide) fl11_258 ha rfl rfl (hx1) ?_
        refine tn_getI (ci := 0) (i := 4) (n := 4) (t := σ.2.1 4 x2) dX11_compared_56 rfl lay_0 (by decide) fl11_282 hk3o rfl rfl (rfl) ?_
        have g9 : ((-2147483648 : Int) ≤ σ.2.1 4 x2 ∧ σ.2.1 4 x2 ≤ 2147483647) := wf_4 hw hk3o
        exact tn_iret rfl dX11_compared_59 ⟨_, rfl, rfl, rfl, by omega⟩
end
section
theorem cd_X11_known : Cond.code yX11_known cX11_known 4 (some .int) ∈ pWW := pw6 (List.mem_of_getElem? (i := 128) rfl) rfl
abbrev m_X11_known : MT := (yX11_known, cX11_known, 4, (some .int))
theorem ok_X11_known : pOk m_X11_known := ⟨⟨cd_X11_known, ini_11⟩, by decide +kernel, ⟨by decide +kernel, by decide +kernel⟩, Nat.le_of_ble_eq_true rfl⟩
theorem np_X11_known : (parseMethodDescriptor yX11_known.desc).map (fun d => d.parameters.length) = some 2 := by decide +kernel
theorem im_X11_known : Cond.instanceMethod yX11_known ∈ pWW := pw6 (List.mem_of_getElem? (i := 126) rfl) rfl
theorem se_X11_known : Cond.selects RX11 yX11_known yX11_known ∈ pWW := pw6 (List.mem_of_getElem? (i := 127) rfl) rfl
theorem dX11_known_0 : decode cX11_known 0 = .ok (.aload_n 0, 1) := by decide +kernel
theorem dX11_known_1 : decode cX11_known 1 = .ok (.getfield 83, 3) := by decide +kernel
theorem dX11_known_4 : decode cX11_known 4 = .ok (.iload_n 1, 1) := by decide +kernel
theorem dX11_known_5 : decode cX11_known 5 = .ok (.invokevirtual 214, 3) := by decide +kernel
theorem dX11_known_8 : decode cX11_known 8 = .ok (.ifCond .eq 18, 3) := by decide +kernel
theorem dX11_known_26 : decode cX11_known 26 = .ok (.iconst (-1), 1) := by decide +kernel
theorem dX11_known_27 : decode cX11_known 27 = .ok (.ireturn, 1) := by decide +kernel
theorem dX11_known_11 : decode cX11_known 11 = .ok (.iload_n 2, 1) := by decide +kernel
theorem dX11_known_12 : decode cX11_known 12 = .ok (.ifCond .lt 14, 3) := by decide +kernel
theorem dX11_known_15 : decode cX11_known 15 = .ok (.iload_n 2, 1) := by decide +kernel
theorem dX11_known_16 : decode cX11_known 16 = .ok (.aload_n 0, 1) := by decide +kernel
theorem dX11_known_17 : decode cX11_known 17 = .ok (.getfield 83, 3) := by decide +kernel
theorem dX11_known_20 : decode cX11_known 20 = .ok (.invokevirtual 224, 3) := by decide +kernel
theorem dX11_known_23 : decode cX11_known 23 = .ok (.if_icmp .lt 5, 3) := by decide +kernel
theorem dX11_known_28 : decode cX11_known 28 = .ok (.aload_n 0, 1) := by decide +kernel
theorem dX11_known_29 : decode cX11_known 29 = .ok (.getfield 39, 3) := by decide +kernel
theorem dX11_known_32 : decode cX11_known 32 = .ok (.aload_n 0, 1) := by decide +kernel
theorem dX11_known_33 : decode cX11_known 33 = .ok (.getfield 83, 3) := by decide +kernel
theorem dX11_known_36 : decode cX11_known 36 = .ok (.invokevirtual 227, 3) := by decide +kernel
theorem dX11_known_39 : decode cX11_known 39 = .ok (.aload_n 0, 1) := by decide +kernel
theorem dX11_known_40 : decode cX11_known 40 = .ok (.getfield 83, 3) := by decide +kernel
theorem dX11_known_43 : decode cX11_known 43 = .ok (.invokevirtual 230, 3) := by decide +kernel
theorem dX11_known_46 : decode cX11_known 46 = .ok (.invokevirtual 176, 3) := by decide +kernel
theorem dX11_known_49 : decode cX11_known 49 = .ok (.aload_n 0, 1) := by decide +kernel
theorem dX11_known_50 : decode cX11_known 50 = .ok (.getfield 39, 3) := by decide +kernel
theorem dX11_known_53 : decode cX11_known 53 = .ok (.aload_n 0, 1) := by decide +kernel
theorem dX11_known_54 : decode cX11_known 54 = .ok (.getfield 83, 3) := by decide +kernel
theorem dX11_known_57 : decode cX11_known 57 = .ok (.invokevirtual 230, 3) := by decide +kernel
theorem dX11_known_60 : decode cX11_known 60 = .ok (.aload_n 0, 1) := by decide +kernel
theorem dX11_known_61 : decode cX11_known 61 = .ok (.getfield 83, 3) := by decide +kernel
theorem dX11_known_64 : decode cX11_known 64 = .ok (.aload_n 0, 1) := by decide +kernel
theorem dX11_known_65 : decode cX11_known 65 = .ok (.getfield 39, 3) := by decide +kernel
theorem dX11_known_68 : decode cX11_known 68 = .ok (.iload_n 2, 1) := by decide +kernel
theorem dX11_known_69 : decode cX11_known 69 = .ok (.invokevirtual 234, 3) := by decide +kernel
theorem dX11_known_72 : decode cX11_known 72 = .ok (.invokevirtual 187, 3) := by decide +kernel
theorem dX11_known_75 : decode cX11_known 75 = .ok (.istore_n 3, 1) := by decide +kernel
theorem dX11_known_76 : decode cX11_known 76 = .ok (.iload_n 3, 1) := by decide +kernel
theorem dX11_known_77 : decode cX11_known 77 = .ok (.bipush 10, 2) := by decide +kernel
theorem dX11_known_79 : decode cX11_known 79 = .ok (.if_icmp .lt 7, 3) := by decide +kernel
theorem dX11_known_86 : decode cX11_known 86 = .ok (.iconst 1, 1) := by decide +kernel
theorem dX11_known_87 : decode cX11_known 87 = .ok (.ireturn, 1) := by decide +kernel
theorem dX11_known_82 : decode cX11_known 82 = .ok (.iload_n 3, 1) := by decide +kernel
theorem dX11_known_83 : decode cX11_known 83 = .ok (.goto 4, 3) := by decide +kernel
set_option maxRecDepth 20000 in
theorem k_X11_known (d : Nat) {T : CT} {σ : MS} {a : Nat} {k : Int} {m : Int} (ha : OB T a 11) (h_k : -2147483648 ≤ k ∧ k ≤ 2147483647) (h_m : -2147483648 ≤ m ∧ m ≤ 2147483647) (hw : WT T σ) : Tn (d + 6) m_X11_known 0 T σ [(0, .ref a), (1, .int (iI k)), (2, .int (iI m))] [] (fun ro T2 σ2 => ∃ v : Int, ro = some (.int (iI v)) ∧ WT T2 σ2 ∧ FrC T [70, 71, 92, 93, 94, 900] σ σ2 ∧ (-2147483648 ≤ v ∧ v ≤ 2147483647)) := by
  refine tn_aload_n dX11_known_0 rfl 0 rfl ?_
  obtain ⟨x1, hx2, hk3⟩ : ∃ x : Nat, σ.2.1 103 a = (x : Int) ∧ (T x).1 = 37 := wf_103 hw ha
  have hk3o : OB T x1 7 := ⟨by omega, by rw [hk3]; rfl, by omega⟩
  refine tn_getR (ci := 11) (i := 8) (n := 103) (x := x1) dX11_known_1 rfl lay_11 (by decide) fl11_83 ha rfl rfl (hx2) ?_
  refine tn_iload_n dX11_known_4 rfl 1 rfl ?_
  refine tn_callV (M := m_X11_known) (pc := 5) (ix := 214) (ci := 7) (M' := m_X7_find) (As := [.int (iI k)]) (rest := []) dX11_known_5 ok_X7_find im_X7_find se_X7_find ml11_214 np_X7_find rfl rfl hk3o rfl (Nat.le_of_ble_eq_true rfl) (Nat.le_of_ble_eq_true rfl) rfl (k_X7_find (d + 1) (T := T) (σ := σ) (a := x1) (k := k) hk3o (by omega) hw ) (fun r5 T7 σ6 gt8 hp => ?_)
  obtain ⟨v11, rfl, rfl, w12, F13, f9, f10⟩ := hp
  clear gt8
  show Tn _ _ 8 T σ6 [(0, .ref a), (1, .int (iI k)), (2, .int (iI m))] [.int (iI v11)] _
  refine tn_if_eq (tgt := 26) dX11_known_8 (by decide) ⟨by omega, by omega⟩ (fun h14 => ?_) (fun h14 => ?_)
  · refine tn_iconst dX11_known_26 ?_
    exact tn_iret rfl dX11_known_27 ⟨_, rfl, w12, (FrC.rfl.trans (FrC.sub F13 (by decide))), by omega⟩
  · refine tn_iload_n dX11_known_11 rfl 2 rfl ?_
    refine tn_if_lt (tgt := 26) dX11_known_12 (by decide) ⟨by omega, by omega⟩ (fun h15 => ?_) (fun h15 => ?_)
    · refine tn_iconst dX11_known_26 ?_
      exact tn_iret rfl dX11_known_27 ⟨_, rfl, w12, (FrC.rfl.trans (FrC.sub F13 (by decide))), by omega⟩
    · refine tn_iload_n dX11_known_15 rfl 2 rfl ?_
      refine tn_aload_n dX11_known_16 rfl 0 rfl ?_
      refine tn_getR (ci := 11) (i := 8) (n := 103) (x := x1) dX11_known_17 rfl lay_11 (by decide) fl11_83 ha rfl rfl (rc_F F13 (Or.inl (by decide)) (by decide) (hx2)) ?_
      refine tn_callV (M := m_X11_known) (pc := 20) (ix := 224) (ci := 7) (M' := m_X7_foundNames) (As := []) (rest := [.int (iI m)]) dX11_known_20 ok_X7_foundNames im_X7_foundNames se_X7_foundNames ml11_224 np_X7_foundNames rfl rfl hk3o rfl (Nat.le_of_ble_eq_true rfl) (Nat.le_of_ble_eq_true rfl) rfl (k_X7_foundNames (d + 2) (T := T) (σ := σ6) (a := x1) hk3o w12 ) (fun r16 T18 σ17 gt19 hp => ?_)
      obtain ⟨v21, rfl, rfl, rfl, f20⟩ := hp
      clear gt19
      show Tn _ _ 23 T σ6 [(0, .ref a), (1, .int (iI k)), (2, .int (iI m))] [.int (iI v21), .int (iI m)] _
      refine tn_icmp_lt (tgt := 28) dX11_known_23 (by decide) ⟨by omega, by omega⟩ ⟨by omega, by omega⟩ (fun h22 => ?_) (fun h22 => ?_)
      · refine tn_aload_n dX11_known_28 rfl 0 rfl ?_
        obtain ⟨x23, hx24, hk25⟩ : ∃ x : Nat, σ.2.1 102 a = (x : Int) ∧ (T x).1 = 40 := wf_102 hw ha
        have hk25o : OB T x23 10 := ⟨by omega, by rw [hk25]; rfl, by omega⟩
        refine tn_getR (ci := 11) (i := 7) (n := 102) (x := x23) dX11_known_29 rfl lay_11 (by decide) fl11_39 ha rfl rfl (rc_F F13 (Or.inl (by decide)) (by decide) (hx24)) ?_
        refine tn_aload_n dX11_known_32 rfl 0 rfl ?_
        refine tn_getR (ci := 11) (i := 8) (n := 103) (x := x1) dX11_known_33 rfl lay_11 (by decide) fl11_83 ha rfl rfl (rc_F F13 (Or.inl (by decide)) (by decide) (hx2)) ?_
        refine tn_callV (M := m_X11_known) (pc := 36) (ix := 227) (ci := 7) (M' := m_X7_foundSource) (As := []) (rest := [.ref x23]) dX11_known_36 ok_X7_foundSource im_X7_foundSource se_X7_foundSource ml11_227 np_X7_foundSource rfl rfl hk3o rfl (Nat.le_of_ble_eq_true rfl) (Nat.le_of_ble_eq_true rfl) rfl (k_X7_foundSource (d + 3) (T := T) (σ := σ6) (a := x1) hk3o w12 ) (fun r27 T29 σ28 gt30 hp => ?_)
        obtain ⟨v32, rfl, rfl, rfl, f31⟩ := hp
        clear gt30
        show Tn _ _ 39 T σ6 [(0, .ref a), (1, .int (iI k)), (2, .int (iI m))] [.int (iI v32), .ref x23] _
        refine tn_aload_n dX11_known_39 rfl 0 rfl ?_
        refine tn_getR (ci := 11) (i := 8) (n := 103) (x := x1) dX11_known_40 rfl lay_11 (by decide) fl11_83 ha rfl rfl (rc_F F13 (Or.inl (by decide)) (by decide) (hx2)) ?_
        refine tn_callV (M := m_X11_known) (pc := 43) (ix := 230) (ci := 7) (M' := m_X7_foundCode) (As := []) (rest := [.int (iI v32), .ref x23]) dX11_known_43 ok_X7_foundCode im_X7_foundCode se_X7_foundCode ml11_230 np_X7_foundCode rfl rfl hk3o rfl (Nat.le_of_ble_eq_true rfl) (Nat.le_of_ble_eq_true rfl) rfl (k_X7_foundCode (d + 3) (T := T) (σ := σ6) (a := x1) hk3o w12 ) (fun r33 T35 σ34 gt36 hp => ?_)
        obtain ⟨v38, rfl, rfl, rfl, rv39, f37⟩ := hp
        clear gt36
        rcases rv39 with rv39 | ⟨x40, rfl, hk41⟩
        · exact absurd True.intro (by have q9 := f37; have q8 := f10 (by omega); unfold CAT at q9; omega)
        · show Tn _ _ 46 T σ6 [(0, .ref a), (1, .int (iI k)), (2, .int (iI m))] (vl true (x40 : Int) :: [.int (iI v32), .ref x23]) _
          rw [vl_ref rfl]
          have hk41t : (T x40).1 = 50 := hk41.2.2 (by have q9 := hk3; omega)
          have hk41to : OB T x40 1 := ⟨by omega, by rw [hk41t]; rfl, by omega⟩
          refine tn_callV (M := m_X11_known) (pc := 46) (ix := 176) (ci := 10) (M' := m_X10_refresh) (As := [.int (iI v32), .ref x40]) (rest := []) dX11_known_46 ok_X10_refresh im_X10_refresh se_X10_refresh ml11_176 np_X10_refresh rfl rfl hk25o rfl (Nat.le_of_ble_eq_true rfl) (Nat.le_of_ble_eq_true rfl) rfl (k_X10_refresh (d) (T := T) (σ := σ6) (a := x23) (r := v32) (c := x40) hk25o (by omega) hk41to hk41t w12 ) (fun r42 T44 σ43 gt45 hp => ?_)
          obtain ⟨rfl, w47, F48⟩ := hp
          replace ha : OB T44 a 11 := gt45.ob ha
          have kp49 : FRV T44 σ43 x1 = FRV T σ6 x1 := FRV.keep w12 hk3o gt45 F48 (by decide) (by decide) (by decide)
          show Tn _ _ 49 T44 σ43 [(0, .ref a), (1, .int (iI k)), (2, .int (iI m))] [] _
          refine tn_aload_n dX11_known_49 rfl 0 rfl ?_
          obtain ⟨x50, hx51, hk52⟩ : ∃ x : Nat, σ43.2.1 102 a = (x : Int) ∧ (T44 x).1 = 40 := wf_102 w47 ha
          have hk52o : OB T44 x50 10 := ⟨by omega, by rw [hk52]; rfl, by omega⟩
          refine tn_getR (ci := 11) (i := 7) (n := 102) (x := x50) dX11_known_50 rfl lay_11 (by decide) fl11_39 ha rfl rfl (hx51) ?_
          refine tn_aload_n dX11_known_53 rfl 0 rfl ?_
          obtain ⟨x54, hx55, hk56⟩ : ∃ x : Nat, σ43.2.1 103 a = (x : Int) ∧ (T44 x).1 = 37 := wf_103 w47 ha
          have hk56o : OB T44 x54 7 := ⟨by omega, by rw [hk56]; rfl, by omega⟩
          refine tn_getR (ci := 11) (i := 8) (n := 103) (x := x54) dX11_known_54 rfl lay_11 (by decide) fl11_83 ha rfl rfl (hx55) ?_
          refine tn_callV (M := m_X11_known) (pc := 57) (ix := 230) (ci := 7) (M' := m_X7_foundCode) (As := []) (rest := [.ref x50]) dX11_known_57 ok_X7_foundCode im_X7_foundCode se_X7_foundCode ml11_230 np_X7_foundCode rfl rfl hk56o rfl (Nat.le_of_ble_eq_true rfl) (Nat.le_of_ble_eq_true rfl) rfl (k_X7_foundCode (d + 3) (T := T44) (σ := σ43) (a := x54) hk56o w47 ) (fun r58 T60 σ59 gt61 hp => ?_)
          obtain ⟨v63, rfl, rfl, rfl, rv64, f62⟩ := hp
          clear gt61
          rcases rv64 with rv64 | ⟨x65, rfl, hk66⟩
          · exact absurd True.intro (by have e9 : x54 = x1 := by { have w1 := hx55; have w2 := rc_F F48 (Or.inl (by decide)) (by decide) (rc_F F13 (Or.inl (by decide)) (by decide) (hx2)); omega }; have q9 := f62; rw [e9, kp49] at q9; have q8 := f10 (by omega); unfold CAT at q9; omega)
          · show Tn _ _ 60 T44 σ43 [(0, .ref a), (1, .int (iI k)), (2, .int (iI m))] (vl true (x65 : Int) :: [.ref x50]) _
            rw [vl_ref rfl]
            have hk66t : (T44 x65).1 = 50 := hk66.2.2 (by have q9 := hk56; omega)
            have hk66to : OB T44 x65 1 := ⟨by omega, by rw [hk66t]; rfl, by omega⟩
            refine tn_aload_n dX11_known_60 rfl 0 rfl ?_
            refine tn_getR (ci := 11) (i := 8) (n := 103) (x := x54) dX11_known_61 rfl lay_11 (by decide) fl11_83 ha rfl rfl (hx55) ?_
            refine tn_aload_n dX11_known_64 rfl 0 rfl ?_
            refine tn_getR (ci := 11) (i := 7) (n := 102) (x := x50) dX11_known_65 rfl lay_11 (by decide) fl11_39 ha rfl rfl (hx51) ?_
            refine tn_iload_n dX11_known_68 rfl 2 rfl ?_
            refine tn_callV (M := m_X11_known) (pc := 69) (ix := 234) (ci := 7) (M' := m_X7_foundId) (As := [.ref x50, .int (iI m)]) (rest := [.ref x65, .ref x50]) dX11_known_69 ok_X7_foundId im_X7_foundId se_X7_foundId ml11_234 np_X7_foundId rfl rfl hk56o rfl (Nat.le_of_ble_eq_true rfl) (Nat.le_of_ble_eq_true rfl) rfl (k_X7_foundId (d + 1) (T := T44) (σ := σ43) (a := x54) (p1 := x50) (p2 := m) hk56o hk52o (by omega) w47 ) (fun r67 T69 σ68 gt70 hp => ?_)
            obtain ⟨v72, rfl, rfl, rfl, f71⟩ := hp
            clear gt70
            show Tn _ _ 72 T44 σ43 [(0, .ref a), (1, .int (iI k)), (2, .int (iI m))] [.int (iI v72), .ref x65, .ref x50] _
            refine tn_callV (M := m_X11_known) (pc := 72) (ix := 187) (ci := 10) (M' := m_X10_whereOf) (As := [.ref x65, .int (iI v72)]) (rest := []) dX11_known_72 ok_X10_whereOf im_X10_whereOf se_X10_whereOf ml11_187 np_X10_whereOf rfl rfl hk52o rfl (Nat.le_of_ble_eq_true rfl) (Nat.le_of_ble_eq_true rfl) rfl (k_X10_whereOf (d + 3) (T := T44) (σ := σ43) (a := x50) (c := x65) (i := v72) hk52o hk66to (by omega) w47 ) (fun r73 T75 σ74 gt76 hp => ?_)
            obtain ⟨v78, rfl, rfl, rfl, f77⟩ := hp
            clear gt76
            show Tn _ _ 75 T44 σ43 [(0, .ref a), (1, .int (iI k)), (2, .int (iI m))] [.int (iI v78)] _
            refine tn_istore_n (L' := [(3, .int (iI v78)), (0, .ref a), (1, .int (iI k)), (2, .int (iI m))]) dX11_known_75 rfl (by decide) rfl ?_
            refine tn_iload_n dX11_known_76 rfl 0 rfl ?_
            refine tn_bipush dX11_known_77 (by decide) ?_
            refine tn_icmp_lt (tgt := 86) dX11_known_79 (by decide) ⟨by omega, by omega⟩ ⟨by decide, by decide⟩ (fun h79 => ?_) (fun h79 => ?_)
            · refine tn_iconst dX11_known_86 ?_
              exact tn_iret rfl dX11_known_87 ⟨_, rfl, w47, ((FrC.rfl.trans (FrC.sub F13 (by decide))).trans (FrC.sub F48 (by decide))), by omega⟩
            · refine tn_iload_n dX11_known_82 rfl 0 rfl ?_
              refine tn_goto (tgt := 87) dX11_known_83 (by decide) ?_
              exact tn_iret rfl dX11_known_87 ⟨_, rfl, w47, ((FrC.rfl.trans (FrC.sub F13 (by decide))).trans (FrC.sub F48 (by decide))), by omega⟩
      · refine tn_iconst dX11_known_26 ?_
        exact tn_iret rfl dX11_known_27 ⟨_, rfl, w12, (FrC.rfl.trans (FrC.sub F13 (by decide))), by omega⟩
end
section
theorem FA.to {x : Nat} {z : Int} {σ τ : MS} (h : z = (x : Int)) (f : FA z.toNat σ τ) : FA x σ τ := by
  rw [h] at f; exact f
/-- of runs only the pair's own went on -/
def F57 (a : Nat) (σ τ : MS) : Prop := ∀ b t p : Nat, σ.2.1 0 a = (t : Int) → σ.2.1 1 a = (p : Int) → b ≠ t → b ≠ p → τ.2.1 57 b = σ.2.1 57 b
section F57S
variable {T : CT} {a x n : Nat} {σ τ υ : MS} {ks : List Nat} {z v : Int}
theorem F57.rfl : F57 a σ σ := fun _ _ _ _ _ _ _ => Eq.refl _
theorem F57.frc (h : F57 a σ τ) (f : FrC T ks τ υ) (h1 : 57 ∉ ks) : F57 a σ υ := fun b t p q r s u => by rw [f.1 57 (by omega) h1]; exact h b t p q r s u
theorem F57.put (h : F57 a σ τ) (hn : n ≠ 57) : F57 a σ (sA n z v τ) := fun b t p q r s u => by rw [sA_k (by omega)]; exact h b t p q r s u
theorem F57.fa (h : F57 a σ τ) (hx : σ.2.1 0 a = (x : Int) ∨ σ.2.1 1 a = (x : Int)) (f : FA x τ υ) : F57 a σ υ := fun b t p q r s u => by
  rw [f 57 b (by decide) (fun e => by rw [e] at s u; omega)]; exact h b t p q r s u
theorem F57.pre (f : FrC T ks σ τ) (h0 : 0 ∉ ks) (h1 : 1 ∉ ks) (h2 : 57 ∉ ks) (h : F57 a τ υ) : F57 a σ υ := fun b t p q r s u => by
  rw [h b t p (by rw [f.1 0 (by omega) h0]; exact q) (by rw [f.1 1 (by omega) h1]; exact r) s u, f.1 57 (by omega) h2]
end F57S
end
section
set_option maxRecDepth 20000 in
theorem l_X0_together_f_20 (d : Nat) {T : CT} {σ0 : MS} {a : Nat} {rx1 : Nat} {c2 : Int} {post : Option Value → CT → MS → Prop} (h_a : OB T a 0) (h_rx1 : OB T rx1 10) (r_c2 : -2147483648 ≤ c2 ∧ c2 ≤ 20000) (hw0 : WT T σ0) (hx_69 : ∀ (i3 : Int) (i4 : Int) (σ : MS) , (WT T σ) → (FrC T [2, 3, 56, 57, 58, 65, 66, 67, 68, 69, 70, 71, 515] σ0 σ) → (-2147483648 ≤ i3 ∧ i3 ≤ 2147483647) → (0 ≤ i4 ∧ i4 ≤ 20000) → (TB σ a (i4 + 1)) → (PB σ a) → (F57 a σ0 σ) → Tn (d + 7) m_X0_together 69 T σ [(0, .ref a), (1, .ref rx1), (2, .int (iI c2)), (3, .int (iI i3)), (4, .int (iI i4))] [] post) (hx_83 : ∀ (i3 : Int) (i4 : Int) (σ : MS) , (WT T σ) → (FrC T [2, 3, 56, 57, 58, 65, 66, 67, 68, 69, 70, 71, 515] σ0 σ) → (-2147483648 ≤ i3 ∧ i3 ≤ 2147483647) → (0 ≤ i4 ∧ i4 ≤ 20000) → (TB σ a (i4 + 1)) → (PB σ a) → (F57 a σ0 σ) → Tn (d + 7) m_X0_together 83 T σ [(0, .ref a), (1, .ref rx1), (2, .int (iI c2)), (3, .int (iI i3)), (4, .int (iI i4))] [] post) : ∀ (n : Nat) (i3 : Int) (i4 : Int) (σ : MS) , (WT T σ) → (FrC T [2, 3, 56, 57, 58, 65, 66, 67, 68, 69, 70, 71, 515] σ0 σ) → (-2147483648 ≤ i3 ∧ i3 ≤ 2147483647) → (0 ≤ i4 ∧ i4 ≤ 20000) → (TB σ a i4) → (PB σ a) → (F57 a σ0 σ) → (2147483700 - i4).toNat = n → Tn (d + 7) m_X0_together 20 T σ [(0, .ref a), (1, .ref rx1), (2, .int (iI c2)), (3, .int (iI i3)), (4, .int (iI i4))] [] post := by
  intro n
  induction n using Nat.strongRecOn with
  | _ n ih =>
    intro i3 i4 σ hw hF r_i3 r_i4 ht hb hf2 hm
    refine tn_iload dX0_together_20 4 rfl ?_
    refine tn_iload_n dX0_together_22 rfl 2 rfl ?_
    refine tn_icmp_ge (tgt := 83) dX0_together_23 (by decide) ⟨by omega, by omega⟩ ⟨by omega, by omega⟩ (fun h1 => ?_) (fun h1 => ?_)
    · exact tn_sub [0, 1, 2, 3, 4] rfl (hx_83 (i3) (i4) σ hw (FrC.rfl.trans (FrC.sub hF (by decide))) (by omega) (by omega) (ht.up (by omega)) hb hf2)
    · refine tn_aload_n dX0_together_26 rfl 0 rfl ?_
      obtain ⟨x2, hx3, hk4⟩ : ∃ x : Nat, σ0.2.1 0 a = (x : Int) ∧ (T x).1 = 37 := wf_0 hw0 h_a
      have hk4o : OB T x2 7 := ⟨by omega, by rw [hk4]; rfl, by omega⟩
      refine tn_getR (ci := 0) (i := 0) (n := 0) (x := x2) dX0_together_27 rfl lay_0 (by decide) fl0_14 h_a rfl rfl (rc_F hF (Or.inl (by decide)) (by decide) (hx3)) ?_
      refine tn_getI (ci := 7) (i := 1) (n := 56) (t := σ.2.1 56 x2) dX0_together_30 rfl lay_7 (by decide) fl0_33 hk4o rfl rfl (rfl) ?_
      have g6 : ((-2147483648 : Int) ≤ σ.2.1 56 x2 ∧ σ.2.1 56 x2 ≤ 2147483647) := wf_56 hw hk4o
      refine tn_iconst dX0_together_33 ?_
      refine tn_icmp_ne (tgt := 83) dX0_together_34 (by decide) ⟨by omega, by omega⟩ ⟨by decide, by decide⟩ (fun h7 => ?_) (fun h7 => ?_)
      · exact tn_sub [0, 1, 2, 3, 4] rfl (hx_83 (i3) (i4) σ hw (FrC.rfl.trans (FrC.sub hF (by decide))) (by omega) (by omega) (ht.up (by omega)) hb hf2)
      · refine tn_aload_n dX0_together_37 rfl 0 rfl ?_
        refine tn_getR (ci := 0) (i := 0) (n := 0) (x := x2) dX0_together_38 rfl lay_0 (by decide) fl0_14 h_a rfl rfl (rc_F hF (Or.inl (by decide)) (by decide) (hx3)) ?_
        refine tn_callV (M := m_X0_together) (pc := 41) (ix := 36) (ci := 7) (M' := m_X7_step) (As := []) (rest := []) dX0_together_41 ok_X7_step im_X7_step se_X7_step ml0_36 np_X7_step rfl rfl hk4o rfl (Nat.le_of_ble_eq_true rfl) (Nat.le_of_ble_eq_true rfl) rfl (k_X7_step (d + 1) (T := T) (σ := σ) (a := x2) hk4o hk4 hw (by have q9 := ht x2 (rc_F hF (Or.inl (by decide)) (by decide) (hx3)); omega)) (fun r8 T10 σ9 gt11 hp => ?_)
        obtain ⟨v15, rfl, rfl, w16, F17, f12, f13, f14⟩ := hp
        clear gt11
        obtain ⟨x18, hx19, hk20⟩ : ∃ x : Nat, σ0.2.1 1 a = (x : Int) ∧ (T x).1 = 57 := wf_1 hw0 h_a
        have hk20o : OB T x18 7 := ⟨by omega, by rw [hk20]; rfl, by omega⟩
        have ne22 : x2 ≠ x18 := fun e => by rw [e] at hk4; omega
        have hb23 : PB σ9 a := PB.torn hb (rc_F hF (Or.inl (by decide)) (by decide) (hx19)) ne22 f14 F17 (by decide)
        have ht24 : TB σ9 a (i4 + 1) := TB.of (rc_F F17 (Or.inl (by decide)) (by decide) (rc_F hF (Or.inl (by decide)) (by decide) (hx3))) (by have q9 := ht x2 (rc_F hF (Or.inl (by decide)) (by decide) (hx3)); omega)
        have f225 : F57 a σ0 σ9 := F57.fa hf2 (Or.inl hx3) f14
        show Tn _ _ 44 T σ9 [(0, .ref a), (1, .ref rx1), (2, .int (iI c2)), (3, .int (iI i3)), (4, .int (iI i4))] [.int (iI v15)] _
        refine tn_if_eq (tgt := 77) dX0_together_44 (by decide) ⟨by omega, by omega⟩ (fun h26 => ?_) (fun h26 => ?_)
        · refine tn_iinc (q0 := 4) (L' := [(4, .int (iI (i4 + 1))), (0, .ref a), (1, .ref rx1), (2, .int (iI c2)), (3, .int (iI i3))]) dX0_together_77 rfl (by decide) rfl ?_
          refine tn_goto (tgt := 20) dX0_together_80 (by decide) ?_
          exact tn_sub [1, 2, 3, 4, 0] rfl (ih _ (by omega) (i3) (i4 + 1) σ9 w16 ((FrC.rfl.trans (FrC.sub hF (by decide))).trans (FrC.sub F17 (by decide))) (by omega) (by omega) ht24 hb23 f225 rfl)
        · refine tn_aload_n dX0_together_47 rfl 0 rfl ?_
          refine tn_callV (M := m_X0_together) (pc := 48) (ix := 40) (ci := 0) (M' := m_X0_plainLine) (As := []) (rest := []) dX0_together_48 ok_X0_plainLine im_X0_plainLine se_X0_plainLine ml0_40 np_X0_plainLine rfl rfl h_a rfl (Nat.le_of_ble_eq_true rfl) (Nat.le_of_ble_eq_true rfl) rfl (k_X0_plainLine (d) (T := T) (σ := σ9) (a := a) h_a w16 hb23) (fun r27 T29 σ28 gt30 hp => ?_)
          obtain ⟨v34, rfl, rfl, w35, F36, f31, f32, f33⟩ := hp
          clear gt30
          have ht38 : TB σ28 a (i4 + 1) := TB.plain ht24 (rc_F F17 (Or.inl (by decide)) (by decide) (rc_F hF (Or.inl (by decide)) (by decide) (hx3))) (rc_F F17 (Or.inl (by decide)) (by decide) (rc_F hF (Or.inl (by decide)) (by decide) (hx19))) ne22 f33 F36 (by decide)
          have f237 : F57 a σ0 σ28 := F57.fa f225 (Or.inr hx19) (FA.to (rc_F F17 (Or.inl (by decide)) (by decide) (rc_F hF (Or.inl (by decide)) (by decide) (hx19))) f33)
          show Tn _ _ 51 T σ28 [(0, .ref a), (1, .ref rx1), (2, .int (iI c2)), (3, .int (iI i3)), (4, .int (iI i4))] [.int (iI v34)] _
          refine tn_if_eq (tgt := 69) dX0_together_51 (by decide) ⟨by omega, by omega⟩ (fun h39 => ?_) (fun h39 => ?_)
          · exact tn_sub [0, 1, 2, 3, 4] rfl (hx_69 (i3) (i4) σ28 w35 (((FrC.rfl.trans (FrC.sub hF (by decide))).trans (FrC.sub F17 (by decide))).trans (FrC.sub F36 (by decide))) (by omega) (by omega) ht38 f32 f237)
          · refine tn_aload_n dX0_together_54 rfl 0 rfl ?_
            refine tn_callV (M := m_X0_together) (pc := 55) (ix := 43) (ci := 0) (M' := m_X0_samePrints) (As := []) (rest := []) dX0_together_55 ok_X0_samePrints im_X0_samePrints se_X0_samePrints ml0_43 np_X0_samePrints rfl rfl h_a rfl (Nat.le_of_ble_eq_true rfl) (Nat.le_of_ble_eq_true rfl) rfl (k_X0_samePrints (d + 5) (T := T) (σ := σ28) (a := a) h_a w35 ) (fun r40 T42 σ41 gt43 hp => ?_)
            obtain ⟨v45, rfl, rfl, rfl, f44⟩ := hp
            clear gt43
            show Tn _ _ 58 T σ28 [(0, .ref a), (1, .ref rx1), (2, .int (iI c2)), (3, .int (iI i3)), (4, .int (iI i4))] [.int (iI v45)] _
            refine tn_if_eq (tgt := 69) dX0_together_58 (by decide) ⟨by omega, by omega⟩ (fun h46 => ?_) (fun h46 => ?_)
            · exact tn_sub [0, 1, 2, 3, 4] rfl (hx_69 (i3) (i4) σ28 w35 (((FrC.rfl.trans (FrC.sub hF (by decide))).trans (FrC.sub F17 (by decide))).trans (FrC.sub F36 (by decide))) (by omega) (by omega) ht38 f32 f237)
            · refine tn_aload_n dX0_together_61 rfl 0 rfl ?_
              refine tn_aload_n dX0_together_62 rfl 1 rfl ?_
              refine tn_callV (M := m_X0_together) (pc := 63) (ix := 46) (ci := 0) (M' := m_X0_sameStack) (As := [.ref rx1]) (rest := []) dX0_together_63 ok_X0_sameStack im_X0_sameStack se_X0_sameStack ml0_46 np_X0_sameStack rfl rfl h_a rfl (Nat.le_of_ble_eq_true rfl) (Nat.le_of_ble_eq_true rfl) rfl (k_X0_sameStack (d) (T := T) (σ := σ28) (a := a) (p1 := rx1) h_a h_rx1 w35 ) (fun r47 T49 σ48 gt50 hp => ?_)
              obtain ⟨v52, rfl, rfl, w53, F54, f51⟩ := hp
              clear gt50
              have hb55 : PB σ48 a := PB.frc f32 F54 (by decide) (by decide) (by decide) (by decide)
              have ht56 : TB σ48 a (i4 + 1) := TB.frc ht38 F54 (by decide) (by decide)
              have f257 : F57 a σ0 σ48 := F57.frc f237 F54 (by decide)
              show Tn _ _ 66 T σ48 [(0, .ref a), (1, .ref rx1), (2, .int (iI c2)), (3, .int (iI i3)), (4, .int (iI i4))] [.int (iI v52)] _
              refine tn_if_ne (tgt := 74) dX0_together_66 (by decide) ⟨by omega, by omega⟩ (fun h58 => ?_) (fun h58 => ?_)
              · refine tn_iinc (q0 := 3) (L' := [(3, .int (iI (i3 + 1))), (0, .ref a), (1, .ref rx1), (2, .int (iI c2)), (4, .int (iI i4))]) dX0_together_74 rfl (by decide) rfl ?_
                obtain ⟨z59, g60, g60e⟩ := wr_ex (i3 + 1)
                rw [g60e]
                have g60r : -2147483648 ≤ z59 ∧ z59 ≤ 2147483647 := g60
                refine tn_iinc (q0 := 4) (L' := [(4, .int (iI (i4 + 1))), (3, .int (iI z59)), (0, .ref a), (1, .ref rx1), (2, .int (iI c2))]) dX0_together_77 rfl (by decide) rfl ?_
                refine tn_goto (tgt := 20) dX0_together_80 (by decide) ?_
                exact tn_sub [2, 3, 4, 1, 0] rfl (ih _ (by omega) (z59) (i4 + 1) σ48 w53 ((((FrC.rfl.trans (FrC.sub hF (by decide))).trans (FrC.sub F17 (by decide))).trans (FrC.sub F36 (by decide))).trans (FrC.sub F54 (by decide))) (by omega) (by omega) ht56 hb55 f257 rfl)
              · exact tn_sub [0, 1, 2, 3, 4] rfl (hx_69 (i3) (i4) σ48 w53 ((((FrC.rfl.trans (FrC.sub hF (by decide))).trans (FrC.sub F17 (by decide))).trans (FrC.sub F36 (by decide))).trans (FrC.sub F54 (by decide))) (by omega) (by omega) ht56 hb55 f257)
set_option maxRecDepth 20000 in
theorem k_X0_together_f (d : Nat) {T : CT} {σ : MS} {a : Nat} {t : Nat} {n : Int} (ha : OB T a 0) (h_t : OB T t 10) (h_n : -2147483648 ≤ n ∧ n ≤ 2147483647) (hw : WT T σ) (hn : n ≤ 20000) (ht : TB σ a 0) (hb : PB σ a) : Tn (d + 7) m_X0_together 0 T σ [(0, .ref a), (1, .ref t), (2, .int (iI n))] [] (fun ro T2 σ2 => ∃ v : Int, ro = some (.int (iI v)) ∧ T = T2 ∧ WT T2 σ2 ∧ FrC T [2, 3, 4, 56, 57, 58, 65, 66, 67, 68, 69, 70, 71, 515] σ σ2 ∧ (-2147483648 ≤ v ∧ v ≤ 2147483647) ∧ (F57 a σ σ2)) := by
  refine tn_iconst dX0_together_0 ?_
  refine tn_istore_n (L' := [(3, .int (iI 0)), (0, .ref a), (1, .ref t), (2, .int (iI n))]) dX0_together_1 rfl (by decide) rfl ?_
  refine tn_aload_n dX0_together_2 rfl 1 rfl ?_
  refine tn_iconst dX0_together_3 ?_
  refine tn_putV (ci := 0) (i := 2) (n := 2) (r := false) (v := 0) tyX0 tyX0_ok nmX0 dX0_together_4 rfl lay_0 (by decide) fl0_23 rfl (tyX0_ok 2 (by decide)) rfl rfl rfl ha rfl rfl ?_
  refine tn_aload_n dX0_together_7 rfl 1 rfl ?_
  refine tn_iconst dX0_together_8 ?_
  refine tn_putV (ci := 0) (i := 3) (n := 3) (r := false) (v := 0) tyX0 tyX0_ok nmX0 dX0_together_9 rfl lay_0 (by decide) fl0_27 rfl (tyX0_ok 3 (by decide)) rfl rfl rfl ha rfl rfl ?_
  refine tn_aload_n dX0_together_12 rfl 1 rfl ?_
  refine tn_iconst dX0_together_13 ?_
  refine tn_putV (ci := 0) (i := 4) (n := 4) (r := false) (v := 0) tyX0 tyX0_ok nmX0 dX0_together_14 rfl lay_0 (by decide) fl0_30 rfl (tyX0_ok 4 (by decide)) rfl rfl rfl ha rfl rfl ?_
  refine tn_iconst dX0_together_17 ?_
  refine tn_istore (L' := [(4, .int (iI 0)), (3, .int (iI 0)), (0, .ref a), (1, .ref t), (2, .int (iI n))]) dX0_together_18 (by decide) rfl ?_
  refine tn_sub [2, 3, 4, 1, 0] rfl (l_X0_together_f_20 (d) (T := T) (σ0 := (sA 4 a (0) (sA 3 a (0) (sA 2 a (0) σ)))) (a := a) (rx1 := t) (c2 := n) ha h_t (by omega) (((hw.put (by decide) (by decide) (fo_2 (by omega))).put (by decide) (by decide) (fo_3 (by omega))).put (by decide) (by decide) (fo_4 (by omega))) (fun i31 i42 σ3 w6 F7 r8 r9 f10 f11 f12 => ?_) (fun i313 i414 σ15 w18 F19 r20 r21 f22 f23 f24 => ?_) _ (0) (0) (sA 4 a (0) (sA 3 a (0) (sA 2 a (0) σ))) (((hw.put (by decide) (by decide) (fo_2 (by omega))).put (by decide) (by decide) (fo_3 (by omega))).put (by decide) (by decide) (fo_4 (by omega))) FrC.rfl (by omega) (by omega) (TB.frc ht (show FrC T [2, 3, 4] σ (sA 4 a (0) (sA 3 a (0) (sA 2 a (0) σ))) from (((FrC.rfl.put (by decide) (by decide)).put (by decide) (by decide)).put (by decide) (by decide))) (by decide) (by decide) ) (PB.frc hb (show FrC T [2, 3, 4] σ (sA 4 a (0) (sA 3 a (0) (sA 2 a (0) σ))) from (((FrC.rfl.put (by decide) (by decide)).put (by decide) (by decide)).put (by decide) (by decide))) (by decide) (by decide) (by decide) (by decide) ) F57.rfl rfl)
  · have f225 : F57 a σ σ3 := F57.pre (show FrC T [2, 3, 4] σ _ from (((FrC.rfl.put (by decide) (by decide)).put (by decide) (by decide)).put (by decide) (by decide))) (by decide) (by decide) (by decide) f12
    show Tn _ _ 69 T σ3 [(0, .ref a), (1, .ref t), (2, .int (iI n)), (3, .int (iI i31)), (4, .int (iI i42))] [] _
    refine tn_bipush dX0_together_69 (by decide) ?_
    refine tn_iload_n dX0_together_71 rfl 3 rfl ?_
    refine tn_isub dX0_together_72 ?_
    refine tn_any (fun z26 g27 => ?_)
    have g27r : -2147483648 ≤ z26 ∧ z26 ≤ 2147483647 := g27
    exact tn_iret rfl dX0_together_73 ⟨_, rfl, rfl, w6, ((((FrC.rfl.put (by decide) (by decide)).put (by decide) (by decide)).put (by decide) (by decide)).trans (FrC.sub F7 (by decide))), by omega, f225⟩
  · have f228 : F57 a σ σ15 := F57.pre (show FrC T [2, 3, 4] σ _ from (((FrC.rfl.put (by decide) (by decide)).put (by decide) (by decide)).put (by decide) (by decide))) (by decide) (by decide) (by decide) f24
    show Tn _ _ 83 T σ15 [(0, .ref a), (1, .ref t), (2, .int (iI n)), (3, .int (iI i313)), (4, .int (iI i414))] [] _
    refine tn_aload_n dX0_together_83 rfl 0 rfl ?_
    obtain ⟨x29, hx30, hk31⟩ : ∃ x : Nat, σ.2.1 0 a = (x : Int) ∧ (T x).1 = 37 := wf_0 hw ha
    have hk31o : OB T x29 7 := ⟨by omega, by rw [hk31]; rfl, by omega⟩
    refine tn_getR (ci := 0) (i := 0) (n := 0) (x := x29) dX0_together_84 rfl lay_0 (by decide) fl0_14 ha rfl rfl (rc_F F19 (Or.inl (by decide)) (by decide) (rc_o (by decide) (rc_o (by decide) (rc_o (by decide) (hx30))))) ?_
    refine tn_getI (ci := 7) (i := 1) (n := 56) (t := σ15.2.1 56 x29) dX0_together_87 rfl lay_7 (by decide) fl0_33 hk31o rfl rfl (rfl) ?_
    have g33 : ((-2147483648 : Int) ≤ σ15.2.1 56 x29 ∧ σ15.2.1 56 x29 ≤ 2147483647) := wf_56 w18 hk31o
    refine tn_iconst dX0_together_90 ?_
    refine tn_icmp_ne (tgt := 96) dX0_together_91 (by decide) ⟨by omega, by omega⟩ ⟨by decide, by decide⟩ (fun h34 => ?_) (fun h34 => ?_)
    · refine tn_aload_n dX0_together_96 rfl 0 rfl ?_
      refine tn_callV (M := m_X0_together) (pc := 97) (ix := 40) (ci := 0) (M' := m_X0_plainLine) (As := []) (rest := []) dX0_together_97 ok_X0_plainLine im_X0_plainLine se_X0_plainLine ml0_40 np_X0_plainLine rfl rfl ha rfl (Nat.le_of_ble_eq_true rfl) (Nat.le_of_ble_eq_true rfl) rfl (k_X0_plainLine (d) (T := T) (σ := σ15) (a := a) ha w18 f23) (fun r35 T37 σ36 gt38 hp => ?_)
      obtain ⟨v42, rfl, rfl, w43, F44, f39, f40, f41⟩ := hp
      clear gt38
      obtain ⟨x45, hx46, hk47⟩ : ∃ x : Nat, σ.2.1 1 a = (x : Int) ∧ (T x).1 = 57 := wf_1 hw ha
      have hk47o : OB T x45 7 := ⟨by omega, by rw [hk47]; rfl, by omega⟩
      have f249 : F57 a σ σ36 := F57.fa f228 (Or.inr hx46) (FA.to (rc_F F19 (Or.inl (by decide)) (by decide) (rc_o (by decide) (rc_o (by decide) (rc_o (by decide) (hx46))))) f41)
      show Tn _ _ 100 T σ36 [(0, .ref a), (1, .ref t), (2, .int (iI n)), (3, .int (iI i313)), (4, .int (iI i414))] [.int (iI v42)] _
      refine tn_if_ne (tgt := 144) dX0_together_100 (by decide) ⟨by omega, by omega⟩ (fun h50 => ?_) (fun h50 => ?_)
      · refine tn_bipush dX0_together_144 (by decide) ?_
        refine tn_iload_n dX0_together_146 rfl 3 rfl ?_
        refine tn_isub dX0_together_147 ?_
        refine tn_any (fun z51 g52 => ?_)
        have g52r : -2147483648 ≤ z51 ∧ z51 ≤ 2147483647 := g52
        exact tn_iret rfl dX0_together_148 ⟨_, rfl, rfl, w43, (((((FrC.rfl.put (by decide) (by decide)).put (by decide) (by decide)).put (by decide) (by decide)).trans (FrC.sub F19 (by decide))).trans (FrC.sub F44 (by decide))), by omega, f249⟩
      · refine tn_aload_n dX0_together_103 rfl 0 rfl ?_
        refine tn_getR (ci := 0) (i := 1) (n := 1) (x := x45) dX0_together_104 rfl lay_0 (by decide) fl0_20 ha rfl rfl (rc_F F44 (Or.inl (by decide)) (by decide) (rc_F F19 (Or.inl (by decide)) (by decide) (rc_o (by decide) (rc_o (by decide) (rc_o (by decide) (hx46)))))) ?_
        refine tn_getI (ci := 7) (i := 1) (n := 56) (t := σ36.2.1 56 x45) dX0_together_107 rfl lay_7 (by decide) fl0_33 hk47o rfl rfl (rfl) ?_
        have g53 : ((-2147483648 : Int) ≤ σ36.2.1 56 x45 ∧ σ36.2.1 56 x45 ≤ 2147483647) := wf_56 w43 hk47o
        refine tn_aload_n dX0_together_110 rfl 0 rfl ?_
        refine tn_getR (ci := 0) (i := 0) (n := 0) (x := x29) dX0_together_111 rfl lay_0 (by decide) fl0_14 ha rfl rfl (rc_F F44 (Or.inl (by decide)) (by decide) (rc_F F19 (Or.inl (by decide)) (by decide) (rc_o (by decide) (rc_o (by decide) (rc_o (by decide) (hx30)))))) ?_
        refine tn_getI (ci := 7) (i := 1) (n := 56) (t := σ36.2.1 56 x29) dX0_together_114 rfl lay_7 (by decide) fl0_33 hk31o rfl rfl (rfl) ?_
        have g54 : ((-2147483648 : Int) ≤ σ36.2.1 56 x29 ∧ σ36.2.1 56 x29 ≤ 2147483647) := wf_56 w43 hk31o
        refine tn_icmp_ne (tgt := 144) dX0_together_117 (by decide) ⟨by omega, by omega⟩ ⟨by omega, by omega⟩ (fun h55 => ?_) (fun h55 => ?_)
        · refine tn_bipush dX0_together_144 (by decide) ?_
          refine tn_iload_n dX0_together_146 rfl 3 rfl ?_
          refine tn_isub dX0_together_147 ?_
          refine tn_any (fun z56 g57 => ?_)
          have g57r : -2147483648 ≤ z56 ∧ z56 ≤ 2147483647 := g57
          exact tn_iret rfl dX0_together_148 ⟨_, rfl, rfl, w43, (((((FrC.rfl.put (by decide) (by decide)).put (by decide) (by decide)).put (by decide) (by decide)).trans (FrC.sub F19 (by decide))).trans (FrC.sub F44 (by decide))), by omega, f249⟩
        · refine tn_aload_n dX0_together_120 rfl 0 rfl ?_
          refine tn_callV (M := m_X0_together) (pc := 121) (ix := 43) (ci := 0) (M' := m_X0_samePrints) (As := []) (rest := []) dX0_together_121 ok_X0_samePrints im_X0_samePrints se_X0_samePrints ml0_43 np_X0_samePrints rfl rfl ha rfl (Nat.le_of_ble_eq_true rfl) (Nat.le_of_ble_eq_true rfl) rfl (k_X0_samePrints (d + 5) (T := T) (σ := σ36) (a := a) ha w43 ) (fun r58 T60 σ59 gt61 hp => ?_)
          obtain ⟨v63, rfl, rfl, rfl, f62⟩ := hp
          clear gt61
          show Tn _ _ 124 T σ36 [(0, .ref a), (1, .ref t), (2, .int (iI n)), (3, .int (iI i313)), (4, .int (iI i414))] [.int (iI v63)] _
          refine tn_if_eq (tgt := 144) dX0_together_124 (by decide) ⟨by omega, by omega⟩ (fun h64 => ?_) (fun h64 => ?_)
          · refine tn_bipush dX0_together_144 (by decide) ?_
            refine tn_iload_n dX0_together_146 rfl 3 rfl ?_
            refine tn_isub dX0_together_147 ?_
            refine tn_any (fun z65 g66 => ?_)
            have g66r : -2147483648 ≤ z65 ∧ z65 ≤ 2147483647 := g66
            exact tn_iret rfl dX0_together_148 ⟨_, rfl, rfl, w43, (((((FrC.rfl.put (by decide) (by decide)).put (by decide) (by decide)).put (by decide) (by decide)).trans (FrC.sub F19 (by decide))).trans (FrC.sub F44 (by decide))), by omega, f249⟩
          · refine tn_aload_n dX0_together_127 rfl 0 rfl ?_
            refine tn_getR (ci := 0) (i := 1) (n := 1) (x := x45) dX0_together_128 rfl lay_0 (by decide) fl0_20 ha rfl rfl (rc_F F44 (Or.inl (by decide)) (by decide) (rc_F F19 (Or.inl (by decide)) (by decide) (rc_o (by decide) (rc_o (by decide) (rc_o (by decide) (hx46)))))) ?_
            refine tn_getI (ci := 7) (i := 13) (n := 68) (t := σ36.2.1 68 x45) dX0_together_131 rfl lay_7 (by decide) fl0_50 hk47o rfl rfl (rfl) ?_
            have g67 : ((-2147483648 : Int) ≤ σ36.2.1 68 x45 ∧ σ36.2.1 68 x45 ≤ 2147483647) := wf_68 w43 hk47o
            refine tn_aload_n dX0_together_134 rfl 0 rfl ?_
            refine tn_getR (ci := 0) (i := 0) (n := 0) (x := x29) dX0_together_135 rfl lay_0 (by decide) fl0_14 ha rfl rfl (rc_F F44 (Or.inl (by decide)) (by decide) (rc_F F19 (Or.inl (by decide)) (by decide) (rc_o (by decide) (rc_o (by decide) (rc_o (by decide) (hx30)))))) ?_
            refine tn_getI (ci := 7) (i := 13) (n := 68) (t := σ36.2.1 68 x29) dX0_together_138 rfl lay_7 (by decide) fl0_50 hk31o rfl rfl (rfl) ?_
            have g68 : ((-2147483648 : Int) ≤ σ36.2.1 68 x29 ∧ σ36.2.1 68 x29 ≤ 2147483647) := wf_68 w43 hk31o
            refine tn_icmp_eq (tgt := 149) dX0_together_141 (by decide) ⟨by omega, by omega⟩ ⟨by omega, by omega⟩ (fun h69 => ?_) (fun h69 => ?_)
            · refine tn_aload_n dX0_together_149 rfl 0 rfl ?_
              refine tn_aload_n dX0_together_150 rfl 0 rfl ?_
              refine tn_getR (ci := 0) (i := 0) (n := 0) (x := x29) dX0_together_151 rfl lay_0 (by decide) fl0_14 ha rfl rfl (rc_F F44 (Or.inl (by decide)) (by decide) (rc_F F19 (Or.inl (by decide)) (by decide) (rc_o (by decide) (rc_o (by decide) (rc_o (by decide) (hx30)))))) ?_
              refine tn_getI (ci := 7) (i := 1) (n := 56) (t := σ36.2.1 56 x29) dX0_together_154 rfl lay_7 (by decide) fl0_33 hk31o rfl rfl (rfl) ?_
              refine tn_iconst dX0_together_157 ?_
              refine tn_icmp_ne (tgt := 165) dX0_together_158 (by decide) ⟨by omega, by omega⟩ ⟨by decide, by decide⟩ (fun h70 => ?_) (fun h70 => ?_)
              · refine tn_iconst dX0_together_165 ?_
                refine tn_putV (ci := 0) (i := 4) (n := 4) (r := false) (v := 2) tyX0 tyX0_ok nmX0 dX0_together_166 rfl lay_0 (by decide) fl0_30 rfl (tyX0_ok 4 (by decide)) rfl rfl rfl ha rfl rfl ?_
                refine tn_iload_n dX0_together_169 rfl 3 rfl ?_
                exact tn_iret rfl dX0_together_170 ⟨_, rfl, rfl, (w43.put (by decide) (by decide) (fo_4 (by omega))), ((((((FrC.rfl.put (by decide) (by decide)).put (by decide) (by decide)).put (by decide) (by decide)).trans (FrC.sub F19 (by decide))).trans (FrC.sub F44 (by decide))).put (by decide) (by decide)), by omega, (f249.put (by decide))⟩
              · refine tn_iconst dX0_together_161 ?_
                refine tn_goto (tgt := 166) dX0_together_162 (by decide) ?_
                refine tn_putV (ci := 0) (i := 4) (n := 4) (r := false) (v := 1) tyX0 tyX0_ok nmX0 dX0_together_166 rfl lay_0 (by decide) fl0_30 rfl (tyX0_ok 4 (by decide)) rfl rfl rfl ha rfl rfl ?_
                refine tn_iload_n dX0_together_169 rfl 3 rfl ?_
                exact tn_iret rfl dX0_together_170 ⟨_, rfl, rfl, (w43.put (by decide) (by decide) (fo_4 (by omega))), ((((((FrC.rfl.put (by decide) (by decide)).put (by decide) (by decide)).put (by decide) (by decide)).trans (FrC.sub F19 (by decide))).trans (FrC.sub F44 (by decide))).put (by decide) (by decide)), by omega, (f249.put (by decide))⟩
            · refine tn_bipush dX0_together_144 (by decide) ?_
              refine tn_iload_n dX0_together_146 rfl 3 rfl ?_
              refine tn_isub dX0_together_147 ?_
              refine tn_any (fun z71 g72 => ?_)
              have g72r : -2147483648 ≤ z71 ∧ z71 ≤ 2147483647 := g72
              exact tn_iret rfl dX0_together_148 ⟨_, rfl, rfl, w43, (((((FrC.rfl.put (by decide) (by decide)).put (by decide) (by decide)).put (by decide) (by decide)).trans (FrC.sub F19 (by decide))).trans (FrC.sub F44 (by decide))), by omega, f249⟩
    · refine tn_iload_n dX0_together_94 rfl 3 rfl ?_
      exact tn_iret rfl dX0_together_95 ⟨_, rfl, rfl, w18, ((((FrC.rfl.put (by decide) (by decide)).put (by decide) (by decide)).put (by decide) (by decide)).trans (FrC.sub F19 (by decide))), by omega, f228⟩
end
section
/-! constructors: types without the budget -/
def WTn (T : CT) (σ : MS) : Prop := (∀ n a, n < 111 → OB T a (cls n) → FO n (T a).1 T (σ.2.1 n a)) ∧ WTC T σ ∧ WTA T σ ∧ WTQ T σ ∧ WTM T σ
theorem WT.n {T : CT} {σ : MS} (h : WT T σ) : WTn T σ := ⟨h.1, h.2.1, h.2.2.1, h.2.2.2.1, h.2.2.2.2.1⟩
/-- all that stood stands, but a -/
def KPx (a : Nat) (T : CT) (σ : MS) (T2 : CT) (σ2 : MS) : Prop := (∀ c, (T c).1 ≠ 0 → c ≠ a → T2 c = T c ∧ (∀ n, n < 200 → σ2.2.1 n (c : Int) = σ.2.1 n c) ∧ σ2.2.1 (1000 + c) = σ.2.1 (1000 + c)) ∧ σ2.2.1 900 = σ.2.1 900
/-- the codes -/
def CD (K : List Nat) (T : CT) : Prop := ∀ c, OB T c 1 ↔ c ∈ K
section CON
variable {T T2 T3 : CT} {σ σ2 σ3 : MS} {a x y k N n ci : Nat} {v z : Int} {K : List Nat}
theorem KPx.rfl : KPx a T σ T σ := ⟨fun _ _ _ => ⟨Eq.refl _, fun _ _ => Eq.refl _, Eq.refl _⟩, Eq.refl _⟩
theorem KPx.trans (h : KPx a T σ T2 σ2) (g : KPx a T2 σ2 T3 σ3) : KPx a T σ T3 σ3 := ⟨fun c p q => by
  obtain ⟨h1, h2, h3⟩ := h.1 c p q
  obtain ⟨g1, g2, g3⟩ := g.1 c (by rw [h1]; exact p) q
  exact ⟨g1.trans h1, fun n hn => (g2 n hn).trans (h2 n hn), g3.trans h3⟩, g.2.trans h.2⟩
theorem KPx.put (h : KPx a T σ T2 σ2) (hn : n < 200) : KPx a T σ T2 (sA n a v σ2) := ⟨fun c p q => by
  obtain ⟨h1, h2, h3⟩ := h.1 c p q
  exact ⟨h1, fun m hm => by rw [sA_ne (by omega)]; exact h2 m hm, by rw [sA_k (by omega)]; exact h3⟩, by rw [sA_k (by omega)]; exact h.2⟩
/-- something of another kind is made at x, where nothing stood -/
theorem WTn.new (h : WTn T σ) (hx : (T x).1 = 0) (hT : ∀ a, a ≠ x → T2 a = T a) (hf : ∀ n c, n < 200 → c ≠ x → σ2.2.1 n (c : Int) = σ.2.1 n c) (hr : ∀ c, c ≠ x → σ2.2.1 (1000 + c) = σ.2.1 (1000 + c)) (h9 : σ2.2.1 900 = σ.2.1 900) (hk : ((T2 x).1 < 30 ∨ 80 ≤ (T2 x).1) ∧ (T2 x).1 ≠ 4 ∧ (T2 x).1 ≠ 5) (h7 : (T2 x).1 = 7 → ∀ c, (T c).1 ≠ 7) (hv : (IA T2 x ∨ (T2 x).1 = 2) → ∀ i, VOK (T2 x).1 i (σ2.2.1 (1000 + x) i)) : WTn T2 σ2 := by
  obtain ⟨h1, h2, h3, h4, h5⟩ := h
  have g : ∀ c, (T c).1 ≠ 0 → T2 c = T c := fun c p => hT c (fun e => p (by rw [e]; exact hx))
  have gg : GT T T2 := fun c p _ => g c p
  have ob : ∀ c ci, OB T2 c ci → c ≠ x ∧ OB T c ci := fun c ci w => by
    have e : c ≠ x := fun e => by have w1 := w.1; have w2 := w.2.2; rw [e] at w1 w2; omega
    exact ⟨e, by unfold OB at w ⊢; rw [hT c e] at w; exact w⟩
  refine ⟨fun n c q w => ?_, fun c y q r => ?_, fun c q i => ?_, ⟨fun c q i i0 i1 => ?_, fun c q i i0 i1 => ?_⟩, ⟨fun c c' q q' => ?_, fun i i0 i1 => ?_⟩⟩
  · obtain ⟨e, w2⟩ := ob c _ w
    rw [hf n c (by omega) e, hT c e]
    exact fo_mono n q gg (h1 n c q w2)
  · obtain ⟨e, w2⟩ := ob c _ q
    rw [hf 5 c (by omega) e] at r
    rw [hf 6 c (by omega) e]
    obtain ⟨y2, e1, e2, -⟩ := cells_at h1 w2
    have e3 : y2 = y := by omega
    rw [g y (by rw [← e3]; omega)]
    exact h2 c y w2 r
  · by_cases e : c = x
    · rw [e] at q ⊢; exact hv q i
    · rw [hr c e, hT c e]; exact h3 c (by unfold IA at q ⊢; rw [hT c e] at q; exact q) i
  · have e : c ≠ x := fun e => by rw [e] at q; omega
    rw [hT c e] at q i1
    rw [hr c e]
    obtain ⟨y, w1, w2⟩ := h4.1 c q i i0 i1
    exact ⟨y, w1, by rw [g y (by omega)]; exact w2⟩
  · have e : c ≠ x := fun e => by rw [e] at q; omega
    rw [hT c e] at q i1
    rw [hr c e]
    obtain ⟨y, w1, w2⟩ := h4.2 c q i i0 i1
    exact ⟨y, w1, by rw [g y (by omega)]; exact w2⟩
  · by_cases e : c = x
    · by_cases e' : c' = x
      · rw [e, e']
      · rw [hT c' e'] at q'; rw [e] at q; exact absurd q' (h7 q c')
    · by_cases e' : c' = x
      · rw [hT c e] at q; rw [e'] at q'; exact absurd q (h7 q' c)
      · rw [hT c e] at q; rw [hT c' e'] at q'; exact h5.1 c c' q q'
  · rw [h9]
    rcases h5.2 i i0 i1 with q | ⟨y, q1, q2⟩
    · exact Or.inl q
    · exact Or.inr ⟨y, q1, by unfold AR; rw [g y (by have := q2.1; omega)]; exact q2⟩
/-- a raw object is written -/
theorem WTn.raw (h : WTn T σ) (hx : 80 ≤ (T x).1) (hn : n < 200) : WTn T (sA n x v σ) := by
  obtain ⟨h1, h2, h3, h4, h5⟩ := h
  have ob : ∀ c ci, OB T c ci → c ≠ x := fun c ci w e => by have := w.2.2; rw [e] at this; omega
  refine ⟨fun m c q w => ?_, fun c y q r => ?_, fun c q => ?_, ⟨fun c q => ?_, fun c q => ?_⟩, h5.1, ?_⟩
  · rw [sA_ne (by have := ob c _ w; omega)]; exact h1 m c q w
  · have e := ob c _ q
    rw [sA_ne (by omega)] at r
    rw [sA_ne (by omega)]
    exact h2 c y q r
  · rw [sA_k (by omega)]; exact h3 c q
  · rw [sA_k (by omega)]; exact h4.1 c q
  · rw [sA_k (by omega)]; exact h4.2 c q
  · rw [sA_k (by omega)]; exact h5.2
/-- a raw row of codes is written -/
theorem WTn.rawrow (h : WTn T σ) (hx : 80 ≤ (T x).1) : WTn T (sA (1000 + x) z v σ) := by
  obtain ⟨h1, h2, h3, h4, h5⟩ := h
  refine ⟨fun m c q w => ?_, fun c y q r => ?_, fun c q => ?_, ⟨fun c q => ?_, fun c q => ?_⟩, h5.1, ?_⟩
  · rw [sA_k (by omega)]; exact h1 m c q w
  · rw [sA_k (by omega)] at r; rw [sA_k (by omega)]; exact h2 c y q r
  · have e : c ≠ x := fun e => by unfold IA at q; rw [e] at q; omega
    rw [sA_k (by omega)]; exact h3 c q
  · have e : c ≠ x := fun e => by rw [e] at q; omega
    rw [sA_k (by omega)]; exact h4.1 c q
  · have e : c ≠ x := fun e => by rw [e] at q; omega
    rw [sA_k (by omega)]; exact h4.2 c q
  · rw [sA_k (by omega)]; exact h5.2
/-- an object is told finished -/
theorem WTn.tag (h : WTn T σ) (hx : T x = (80 + ci, N)) (hk : 30 ≤ k ∧ k < 80 ∧ kC k = ci) (hf : ∀ m, m < 111 → cls m = ci → FO m k T (σ.2.1 m x)) (hc : ci = 1 → ∀ y : Nat, σ.2.1 5 x = (y : Int) → 13 * σ.2.1 6 x ≤ ((T y).2 : Int) ∨ 2600 ≤ (T y).2) : WTn (tT T x k N) σ := by
  obtain ⟨h1, h2, h3, h4, h5⟩ := h
  have hx1 : (T x).1 = 80 + ci := by rw [hx]
  have g : GT T (tT T x k N) := fun c p r => tT_ne (fun e => by rw [e] at r; omega)
  have gk : ∀ c, (T c).1 < 80 → tT T x k N c = T c := fun c r => tT_ne (fun e => by rw [e] at r; omega)
  have bk : ∀ c, c ≠ x → tT T x k N c = T c := fun c e => tT_ne e
  have xt : tT T x k N x = (k, N) := tT_eq
  refine ⟨fun m c q w => ?_, fun c y q r => ?_, fun c q i => ?_, ⟨fun c q i i0 i1 => ?_, fun c q i i0 i1 => ?_⟩, ⟨fun c c' q q' => ?_, fun i i0 i1 => ?_⟩⟩
  · by_cases e : c = x
    · rw [e] at w ⊢
      have w2 := w.2.1
      rw [xt] at w2 ⊢
      exact fo_mono m q g (hf m q (by rw [← hk.2.2]; exact w2.symm))
    · rw [bk c e]
      exact fo_mono m q g (h1 m c q (by unfold OB at w ⊢; rw [bk c e] at w; exact w))
  · by_cases e : c = x
    · rw [e] at q r ⊢
      have w2 := q.2.1
      rw [xt] at w2
      have hci : ci = 1 := by rw [← hk.2.2]; exact w2
      obtain ⟨y2, e1, e2, e3, e4⟩ : FO 5 k T (σ.2.1 5 x) := hf 5 (by decide) (by rw [hci]; rfl)
      have e5 : y2 = y := by omega
      rw [gk y (by rw [← e5]; by_cases q9 : k = 50
                   · have := e3 q9; omega
                   · have := e4 q9; omega)]
      exact hc hci y r
    · have q2 : OB T c 1 := by unfold OB at q ⊢; rw [bk c e] at q; exact q
      obtain ⟨y2, e1, e2, -⟩ := cells_at h1 q2
      have e3 : y2 = y := by omega
      rw [gk y (by rw [← e3]; omega)]
      exact h2 c y q2 r
  · have e : c ≠ x := fun e => by unfold IA at q; rw [e, xt] at q; have := hk.1; simp only at q; omega
    rw [bk c e]
    exact h3 c (by unfold IA at q ⊢; rw [bk c e] at q; exact q) i
  · have e : c ≠ x := fun e => by rw [e, xt] at q; have q9 : k = 4 := q; omega
    rw [bk c e] at q i1
    obtain ⟨y, w1, w2⟩ := h4.1 c q i i0 i1
    exact ⟨y, w1, by rw [gk y (by omega)]; exact w2⟩
  · have e : c ≠ x := fun e => by rw [e, xt] at q; have q9 : k = 5 := q; omega
    rw [bk c e] at q i1
    obtain ⟨y, w1, w2⟩ := h4.2 c q i i0 i1
    exact ⟨y, w1, by rw [gk y (by omega)]; exact w2⟩
  · have e : ∀ c, (tT T x k N c).1 = 7 → (T c).1 = 7 := fun c q => by
      have e : c ≠ x := fun e => by rw [e, xt] at q; have q9 : k = 7 := q; omega
      rw [bk c e] at q; exact q
    exact h5.1 c c' (e c q) (e c' q')
  · rcases h5.2 i i0 i1 with q | ⟨y, q1, q2⟩
    · exact Or.inl q
    · exact Or.inr ⟨y, q1, by unfold AR; rw [gk y (by have := q2.1; omega)]; exact q2⟩
theorem CD.new (h : CD K T) (hT : ∀ a, a ≠ x → T2 a = T a) (hx : (T x).1 = 0) (hk : (T2 x).1 < 30 ∨ 80 ≤ (T2 x).1) : CD K T2 := fun c => by
  rw [← h c]
  constructor
  · intro w
    have e : c ≠ x := fun e => by have w1 := w.1; have w2 := w.2.2; rw [e] at w1 w2; omega
    unfold OB at w ⊢; rw [hT c e] at w; exact w
  · intro w
    have e : c ≠ x := fun e => by have w1 := w.1; rw [e] at w1; omega
    unfold OB at w ⊢; rw [hT c e]; exact w
theorem CD.tag (h : CD K T) (hx : 80 ≤ (T x).1) (hk : kC k ≠ 1) : CD K (tT T x k N) := fun c => by
  rw [← h c]
  by_cases e : c = x
  · constructor
    · intro w; rw [e] at w; have := w.2.1; rw [tT_eq] at this; exact absurd this hk
    · intro w; rw [e] at w; have := w.2.2; omega
  · unfold OB; rw [tT_ne e]
theorem CD.tagC (h : CD K T) (hk : k = 31 ∨ k = 50) : CD (x :: K) (tT T x k N) := fun c => by
  by_cases e : c = x
  · constructor
    · intro _; rw [e]; exact List.mem_cons_self ..
    · intro _; rw [e]; unfold OB; rw [tT_eq]; show 30 ≤ k ∧ kC k = 1 ∧ k < 80; rcases hk with h | h <;> rw [h] <;> decide
  · constructor
    · intro w; exact List.mem_cons_of_mem _ ((h c).mp (by unfold OB at w ⊢; rw [tT_ne e] at w; exact w))
    · intro w
      rcases List.mem_cons.mp w with q | q
      · exact absurd q e
      · have w2 := (h c).mpr q
        unfold OB at w2 ⊢; rw [tT_ne e]; exact w2
end CON
/-! a constructor under way: a is raw, of class ci -/
def CX (a ci : Nat) (K : List Nat) (G G1 : Nat) (T0 : CT) (σ0 : MS) (T : CT) (σ : MS) : Prop := T a = (80 + ci, 0) ∧ WTn T σ ∧ CD K T ∧ KPx a T0 σ0 T σ ∧ σ.1 0 = σ0.1 0 + G ∧ σ.1 1 = σ0.1 1 + G1
section CXS
variable {T T0 T2 : CT} {σ σ0 σ2 : MS} {a x y k N n ci cj G G1 H H1 : Nat} {v z : Int} {K K2 : List Nat}
theorem CX.begin (h1 : T a = (80 + ci, 0)) (h2 : WTn T σ) (h3 : CD K T) : CX a ci K 0 0 T σ T σ := ⟨h1, h2, h3, KPx.rfl, by omega, by omega⟩
theorem CX.r (h : CX a ci K G G1 T0 σ0 T σ) (hc : ci < 12) : OBr T a ci := by
  unfold OBr; rw [h.1]
  refine ⟨by show 30 ≤ 80 + ci; omega, ?_, by show 80 + ci < 94; omega⟩
  show kC (80 + ci) = ci
  unfold kC; rw [if_neg (by omega), if_neg (by omega), if_pos (by omega)]; omega
theorem CX.put (h : CX a ci K G G1 T0 σ0 T σ) (hn : n < 200) : CX a ci K G G1 T0 σ0 T (sA n a v σ) :=
  ⟨h.1, h.2.1.raw (by rw [h.1]; show 80 ≤ 80 + ci; omega) hn, h.2.2.1, h.2.2.2.1.put hn, h.2.2.2.2.1, h.2.2.2.2.2⟩
theorem CX.ne (h : CX a ci K G G1 T0 σ0 T σ) (hx : (T x).1 = 0) : a ≠ x := fun e => by rw [← e, h.1] at hx; have h9 : 80 + ci = 0 := hx; omega
/-- something is made -/
theorem CX.new (h : CX a ci K G G1 T0 σ0 T σ) (hx : (T x).1 = 0) (hT : ∀ a, a ≠ x → T2 a = T a) (hf : ∀ n c, n < 200 → c ≠ x → σ2.2.1 n (c : Int) = σ.2.1 n c) (hr : ∀ c, c ≠ x → σ2.2.1 (1000 + c) = σ.2.1 (1000 + c)) (h9 : σ2.2.1 900 = σ.2.1 900) (hk : ((T2 x).1 < 30 ∨ 80 ≤ (T2 x).1) ∧ (T2 x).1 ≠ 4 ∧ (T2 x).1 ≠ 5) (h7 : (T2 x).1 = 7 → ∀ c, (T c).1 ≠ 7) (hv : (IA T2 x ∨ (T2 x).1 = 2) → ∀ i, VOK (T2 x).1 i (σ2.2.1 (1000 + x) i)) (g0 : σ2.1 0 = σ.1 0 + N) (g1 : σ2.1 1 = σ.1 1 + 1) : CX a ci K (G + N) (G1 + 1) T0 σ0 T2 σ2 := by
  have hne := h.ne hx
  refine ⟨by rw [hT a hne]; exact h.1, h.2.1.new hx hT hf hr h9 hk h7 hv, h.2.2.1.new hT hx hk.1, ⟨fun c p q => ?_, h9.trans h.2.2.2.1.2⟩, by have := h.2.2.2.2.1; omega, by have := h.2.2.2.2.2; omega⟩
  obtain ⟨w1, w2, w3⟩ := h.2.2.2.1.1 c p q
  have e : c ≠ x := fun e => by rw [e] at w1 p; rw [← w1] at p; exact p hx
  exact ⟨(hT c e).trans w1, fun n hn => (hf n c hn e).trans (w2 n hn), (hr c e).trans w3⟩
theorem CX.newI (h : CX a ci K G G1 T0 σ0 T σ) (hx : (T x).1 = 0) (hk : k = 1 ∨ (11 ≤ k ∧ k ≤ 24)) : CX a ci K (G + N) (G1 + 1) T0 σ0 (tT T x k N) (rowS (1000 + x) (fun _ => 0) (gh N σ)) := by
  have e : (tT T x k N x).1 = k := by rw [tT_eq]
  exact h.new hx (fun a e => tT_ne e) (fun n c hn hc => by rw [rowS_ne (by omega)]; rfl) (fun c hc => by rw [rowS_ne (by omega)]; rfl) (by rw [rowS_ne (by omega)]; rfl) (by rw [e]; omega) (by rw [e]; omega) (fun _ i => by rw [rowS_eq]; exact vok_0) (by show σ.1 0 + (N : Int) = _; rfl) (by show σ.1 1 + 1 = _; rfl)
theorem CX.newB (h : CX a ci K G G1 T0 σ0 T σ) (hx : (T x).1 = 0) : CX a ci K (G + N) (G1 + 1) T0 σ0 (tT T x 2 N) (rowS (1000 + x) (fun _ => 0) (gh N σ)) := by
  have e : (tT T x 2 N x).1 = 2 := by rw [tT_eq]
  exact h.new hx (fun a e => tT_ne e) (fun n c hn hc => by rw [rowS_ne (by omega)]; rfl) (fun c hc => by rw [rowS_ne (by omega)]; rfl) (by rw [rowS_ne (by omega)]; rfl) (by rw [e]; omega) (by rw [e]; omega) (fun _ i => by rw [rowS_eq]; exact vok_0) (by show σ.1 0 + (N : Int) = _; rfl) (by show σ.1 1 + 1 = _; rfl)
theorem CX.newQ (h : CX a ci K G G1 T0 σ0 T σ) (hx : (T x).1 = 0) (hk : k = 94 ∨ k = 95) : CX a ci K (G + N) (G1 + 1) T0 σ0 (tT T x k N) (rowS (1000 + x) (fun _ => -1) (gh N σ)) := by
  have e : (tT T x k N x).1 = k := by rw [tT_eq]
  exact h.new hx (fun a e => tT_ne e) (fun n c hn hc => by rw [rowS_ne (by omega)]; rfl) (fun c hc => by rw [rowS_ne (by omega)]; rfl) (by rw [rowS_ne (by omega)]; rfl) (by rw [e]; omega) (by rw [e]; omega) (fun q => by unfold IA at q; rw [e] at q; omega) (by show σ.1 0 + (N : Int) = _; rfl) (by show σ.1 1 + 1 = _; rfl)
theorem CX.newJ (h : CX a ci K G G1 T0 σ0 T σ) (hx : (T x).1 = 0) : CX a ci K (G + N) (G1 + 1) T0 σ0 (tT T x 3 N) (rowL x (fun _ => 0) (gh N σ)) := by
  have e : (tT T x 3 N x).1 = 3 := by rw [tT_eq]
  exact h.new hx (fun a e => tT_ne e) (fun n c hn hc => rfl) (fun c hc => rfl) rfl (by rw [e]; omega) (by rw [e]; omega) (fun q => by unfold IA at q; rw [e] at q; omega) (by show σ.1 0 + (N : Int) = _; rfl) (by show σ.1 1 + 1 = _; rfl)
theorem CX.newO (h : CX a ci K G G1 T0 σ0 T σ) (hx : (T x).1 = 0) (hc : cj < 12) : CX a ci K (G + N) (G1 + 1) T0 σ0 (tT T x (80 + cj) 0) (objS x (gh N σ)) := by
  have e : (tT T x (80 + cj) 0 x).1 = 80 + cj := by rw [tT_eq]
  exact h.new hx (fun a e => tT_ne e) (fun n c hn hc => by rw [objS_ne (by omega)]; rfl) (fun c hc => by rw [objS_hi (by omega)]; rfl) (by rw [objS_hi (by omega)]; rfl) (by rw [e]; omega) (by rw [e]; omega) (fun q => by unfold IA at q; rw [e] at q; omega) (by show σ.1 0 + (N : Int) = _; rfl) (by show σ.1 1 + 1 = _; rfl)
/-- behind another's constructor -/
theorem CX.call (h : CX a ci K G G1 T0 σ0 T σ) (hx : a ≠ x) (h1 : WTn T2 σ2) (h2 : CD K2 T2) (h3 : KPx x T σ T2 σ2) (h4 : σ2.1 0 = σ.1 0 + H) (h5 : σ2.1 1 = σ.1 1 + H1) (h0 : (T0 x).1 = 0) : CX a ci K2 (G + H) (G1 + H1) T0 σ0 T2 σ2 := by
  have ha := h.1
  obtain ⟨w1, w2, w3⟩ := h3.1 a (by rw [ha]; show 80 + ci ≠ 0; omega) hx
  refine ⟨w1.trans ha, h1, h2, ⟨fun c p q => ?_, h3.2.trans h.2.2.2.1.2⟩, by have := h.2.2.2.2.1; omega, by have := h.2.2.2.2.2; omega⟩
  obtain ⟨u1, u2, u3⟩ := h.2.2.2.1.1 c p q
  obtain ⟨y1, y2, y3⟩ := h3.1 c (by rw [u1]; exact p) (fun e => by rw [e] at p; exact p h0)
  exact ⟨y1.trans u1, fun n hn => (y2 n hn).trans (u2 n hn), y3.trans u3⟩
theorem CX.fresh (h : CX a ci K G G1 T0 σ0 T σ) (hx : (T x).1 = 0) : (T0 x).1 = 0 ∨ x = a := by
  by_cases e : x = a
  · exact Or.inr e
  · by_cases q : (T0 x).1 = 0
    · exact Or.inl q
    · have w := (h.2.2.2.1.1 x q e).1
      rw [w] at hx
      exact absurd hx q
theorem tk_keep {m : Nat × Nat} (h : T y = m) (hm : m.1 ≠ 0) (hx : (T x).1 = 0) : tT T x k N y = m := by rw [tT_ne (fun e => by rw [e] at h; rw [h] at hx; exact hm hx)]; exact h
end CXS
section OBJ
variable {d : Nat} {M : MT} {pc : Nat} {T : CT} {σ : MS} {L : List (Nat × Value)} {st : List Value} {post : Option Value → CT → MS → Prop}
theorem tn_objInit {ix x : Nat} (hd : decode M.2.1 pc = .ok (.invokespecial ix, 3)) (h1 : Cond.methodLink M.1.cls ix objectInit ∈ pWW) (h2 : Cond.instanceMethod objectInit ∈ pWW) (h3 : Cond.code objectInit ⟨#[0xb1]⟩ 1 none ∈ pWW) (hd1 : 0 < d) (hcat : (st.map fun v => v.category).sum ≤ 8) (kk : Tn d M (pc + 3) T σ L st post) : Tn d M pc T σ L (.ref x :: st) post := fun P0 sz hs => by
  obtain ⟨r, T2, σ2, sz2, n9, w, hp⟩ := kk P0 sz hs
  exact ⟨r, T2, σ2, sz2, n9, wp_objInit hd h1 h2 h3 hd1 hcat w, hp⟩
end OBJ
/-- nothing new is tagged q -/
def NX (q a : Nat) (T0 T : CT) : Prop := ∀ c, (T0 c).1 = 0 → c ≠ a → (T c).1 ≠ q
section NXS
variable {q a x k N : Nat} {T T0 T2 : CT} {σ σ2 : MS}
theorem NX.begin (h : q ≠ 0) : NX q a T T := fun c p _ => by rw [p]; exact Ne.symm h
theorem NX.new (h : NX q a T0 T) (hT : ∀ a, a ≠ x → T2 a = T a) (hq : (T2 x).1 ≠ q) : NX q a T0 T2 := fun c p r => by
  by_cases e : c = x
  · rw [e]; exact hq
  · rw [hT c e]; exact h c p r
theorem NX.mk9 (h : NX q a T0 T) (hq : k ≠ q) : NX q a T0 (tT T x k N) := h.new (fun _ e => tT_ne e) (by rw [tT_eq]; exact hq)
theorem NX.call {m : Nat × Nat} (h : NX q a T0 T) (g : KPx x T σ T2 σ2) (hx : T2 x = m) (hq : m.1 ≠ q) (n : NX q x T T2) : NX q a T0 T2 := fun c p r => by
  by_cases e : c = x
  · rw [e, hx]; exact hq
  · by_cases z : (T c).1 = 0
    · exact n c z e
    · rw [(g.1 c z e).1]; exact h c p r
theorem NX.tag (h : NX q a T0 T) : NX q a T0 (tT T a k N) := fun c p r => by rw [tT_ne r]; exact h c p r
/-- the row of tables is made -/
theorem CX.newM {ci G G1 : Nat} {K : List Nat} {σ0 : MS} (h : CX a ci K G G1 T0 σ0 T σ) (hx : (T x).1 = 0) (h9 : σ.2.1 900 = fun _ => -1) (h7 : ∀ c, (T c).1 ≠ 7) : CX a ci K (G + N) (G1 + 1) T0 σ0 (tT T x 7 N) (rowS 900 (fun _ => -1) (gh N σ)) := by
  have e : (tT T x 7 N x).1 = 7 := by rw [tT_eq]
  exact h.new hx (fun a e => tT_ne e) (fun n c hn hc => by rw [rowS_ne (by omega)]; rfl) (fun c hc => by rw [rowS_ne (by omega)]; rfl) (by rw [rowS_eq, h9]) (by rw [e]; omega) (fun _ => h7) (fun q => by unfold IA at q; rw [e] at q; omega) (by show σ.1 0 + (N : Int) = _; rfl) (by show σ.1 1 + 1 = _; rfl)
end NXS

theorem clsR_0 : ∀ m, m < 111 → cls m = 0 → 0 ≤ m ∧ m ≤ 4 := by decide
theorem clsR_1 : ∀ m, m < 111 → cls m = 1 → 5 ≤ m ∧ m ≤ 16 := by decide
theorem clsR_2 : ∀ m, m < 111 → cls m = 2 → 17 ≤ m ∧ m ≤ 17 := by decide
theorem clsR_3 : ∀ m, m < 111 → cls m = 3 → 18 ≤ m ∧ m ≤ 22 := by decide
theorem clsR_4 : ∀ m, m < 111 → cls m = 4 → 23 ≤ m ∧ m ≤ 32 := by decide
theorem clsR_5 : ∀ m, m < 111 → cls m = 5 → 33 ≤ m ∧ m ≤ 51 := by decide
theorem clsR_6 : ∀ m, m < 111 → cls m = 6 → 52 ≤ m ∧ m ≤ 54 := by decide
theorem clsR_7 : ∀ m, m < 111 → cls m = 7 → 55 ≤ m ∧ m ≤ 71 := by decide
theorem clsR_8 : ∀ m, m < 111 → cls m = 8 → 72 ≤ m ∧ m ≤ 80 := by decide
theorem clsR_9 : ∀ m, m < 111 → cls m = 9 → 81 ≤ m ∧ m ≤ 87 := by decide
theorem clsR_10 : ∀ m, m < 111 → cls m = 10 → 88 ≤ m ∧ m ≤ 94 := by decide
theorem clsR_11 : ∀ m, m < 111 → cls m = 11 → 95 ≤ m ∧ m ≤ 110 := by decide
theorem AR.of {T : CT} {x k N lo hi : Nat} (h : T x = (k, N)) (h1 : lo ≤ N) (h2 : N ≤ hi) : AR T x k lo hi := by unfold AR; rw [h]; exact ⟨rfl, h1, h2⟩
theorem KPx.tag {a k N : Nat} {T T0 : CT} {σ σ0 : MS} (h : KPx a T0 σ0 T σ) : KPx a T0 σ0 (tT T a k N) σ := ⟨fun c p q => ⟨(tT_ne q).trans (h.1 c p q).1, (h.1 c p q).2⟩, h.2⟩
theorem ne_of {T : CT} {y x : Nat} {m m2 : Nat × Nat} (h1 : T y = m) (h2 : T x = m2) (h : m ≠ m2) : y ≠ x := fun e => h (by rw [← h1, ← h2, e])
theorem tg1 {T : CT} {x k N : Nat} (h : T x = (k, N)) : (T x).1 = k := by rw [h]
theorem oiI : Cond.instanceMethod objectInit ∈ pWW := pw1 (List.mem_of_getElem? (i := 28) rfl) rfl
theorem oiC : Cond.code objectInit ⟨#[0xb1]⟩ 1 none ∈ pWW := pw1 (List.mem_of_getElem? (i := 29) rfl) rfl
end
section
theorem hfd_0 : ∀ (τ : MS) (x : Nat), (∀ j, j < 200 → τ.2.1 j (x : Int) = dfF j) → cF 0 τ x = [.null, .null, .int 0, .int 0, .int 0] := fun τ x h => by
  show cL 0 [true, true, false, false, false] τ x = _
  simp only [cL]
  rw [h 0 (by decide), h 1 (by decide), h 2 (by decide), h 3 (by decide), h 4 (by decide)]
  rfl
theorem hfd_1 : ∀ (τ : MS) (x : Nat), (∀ j, j < 200 → τ.2.1 j (x : Int) = dfF j) → cF 1 τ x = [.null, .int 0, .int 0, .int 0, .int 0, .int 0, .null, .null, .null, .null, .null, .null] := fun τ x h => by
  show cL 5 [true, false, false, false, false, false, true, true, true, true, true, true] τ x = _
  simp only [cL]
  rw [h 5 (by decide), h 6 (by decide), h 7 (by decide), h 8 (by decide), h 9 (by decide), h 10 (by decide), h 11 (by decide), h 12 (by decide), h 13 (by decide), h 14 (by decide), h 15 (by decide), h 16 (by decide)]
  rfl
theorem hfd_2 : ∀ (τ : MS) (x : Nat), (∀ j, j < 200 → τ.2.1 j (x : Int) = dfF j) → cF 2 τ x = [.null] := fun τ x h => by
  show cL 17 [true] τ x = _
  simp only [cL]
  rw [h 17 (by decide)]
  rfl
theorem hfd_3 : ∀ (τ : MS) (x : Nat), (∀ j, j < 200 → τ.2.1 j (x : Int) = dfF j) → cF 3 τ x = [.null, .null, .null, .null, .int 0] := fun τ x h => by
  show cL 18 [true, true, true, true, false] τ x = _
  simp only [cL]
  rw [h 18 (by decide), h 19 (by decide), h 20 (by decide), h 21 (by decide), h 22 (by decide)]
  rfl
theorem hfd_4 : ∀ (τ : MS) (x : Nat), (∀ j, j < 200 → τ.2.1 j (x : Int) = dfF j) → cF 4 τ x = [.null, .null, .null, .null, .int 0, .int 0, .int 0, .int 0, .int 0, .int 0] := fun τ x h => by
  show cL 23 [true, true, true, true, false, false, false, false, false, false] τ x = _
  simp only [cL]
  rw [h 23 (by decide), h 24 (by decide), h 25 (by decide), h 26 (by decide), h 27 (by decide), h 28 (by decide), h 29 (by decide), h 30 (by decide), h 31 (by decide), h 32 (by decide)]
  rfl
theorem hfd_5 : ∀ (τ : MS) (x : Nat), (∀ j, j < 200 → τ.2.1 j (x : Int) = dfF j) → cF 5 τ x = [.null, .null, .null, .null, .null, .int 0, .null, .null, .null, .int 0, .int 0, .int 0, .int 0, .int 0, .int 0, .null, .null, .int 0, .int 0] := fun τ x h => by
  show cL 33 [true, true, true, true, true, false, true, true, true, false, false, false, false, false, false, true, true, false, false] τ x = _
  simp only [cL]
  rw [h 33 (by decide), h 34 (by decide), h 35 (by decide), h 36 (by decide), h 37 (by decide), h 38 (by decide), h 39 (by decide), h 40 (by decide), h 41 (by decide), h 42 (by decide), h 43 (by decide), h 44 (by decide), h 45 (by decide), h 46 (by decide), h 47 (by decide), h 48 (by decide), h 49 (by decide), h 50 (by decide), h 51 (by decide)]
  rfl
theorem hfd_6 : ∀ (τ : MS) (x : Nat), (∀ j, j < 200 → τ.2.1 j (x : Int) = dfF j) → cF 6 τ x = [.null, .null, .null] := fun τ x h => by
  show cL 52 [true, true, true] τ x = _
  simp only [cL]
  rw [h 52 (by decide), h 53 (by decide), h 54 (by decide)]
  rfl
theorem hfd_7 : ∀ (τ : MS) (x : Nat), (∀ j, j < 200 → τ.2.1 j (x : Int) = dfF j) → cF 7 τ x = [.null, .int 0, .int 0, .int 0, .null, .null, .null, .null, .null, .null, .int 0, .int 0, .int 0, .int 0, .null, .int 0, .int 0] := fun τ x h => by
  show cL 55 [true, false, false, false, true, true, true, true, true, true, false, false, false, false, true, false, false] τ x = _
  simp only [cL]
  rw [h 55 (by decide), h 56 (by decide), h 57 (by decide), h 58 (by decide), h 59 (by decide), h 60 (by decide), h 61 (by decide), h 62 (by decide), h 63 (by decide), h 64 (by decide), h 65 (by decide), h 66 (by decide), h 67 (by decide), h 68 (by decide), h 69 (by decide), h 70 (by decide), h 71 (by decide)]
  rfl
theorem hfd_8 : ∀ (τ : MS) (x : Nat), (∀ j, j < 200 → τ.2.1 j (x : Int) = dfF j) → cF 8 τ x = [.null, .null, .null, .null, .null, .null, .null, .null, .int 0] := fun τ x h => by
  show cL 72 [true, true, true, true, true, true, true, true, false] τ x = _
  simp only [cL]
  rw [h 72 (by decide), h 73 (by decide), h 74 (by decide), h 75 (by decide), h 76 (by decide), h 77 (by decide), h 78 (by decide), h 79 (by decide), h 80 (by decide)]
  rfl
theorem hfd_9 : ∀ (τ : MS) (x : Nat), (∀ j, j < 200 → τ.2.1 j (x : Int) = dfF j) → cF 9 τ x = [.null, .null, .null, .int 0, .int 0, .int 0, .int 0] := fun τ x h => by
  show cL 81 [true, true, true, false, false, false, false] τ x = _
  simp only [cL]
  rw [h 81 (by decide), h 82 (by decide), h 83 (by decide), h 84 (by decide), h 85 (by decide), h 86 (by decide), h 87 (by decide)]
  rfl
theorem hfd_10 : ∀ (τ : MS) (x : Nat), (∀ j, j < 200 → τ.2.1 j (x : Int) = dfF j) → cF 10 τ x = [.null, .null, .null, .null, .null, .int 0, .int 0] := fun τ x h => by
  show cL 88 [true, true, true, true, true, false, false] τ x = _
  simp only [cL]
  rw [h 88 (by decide), h 89 (by decide), h 90 (by decide), h 91 (by decide), h 92 (by decide), h 93 (by decide), h 94 (by decide)]
  rfl
theorem hfd_11 : ∀ (τ : MS) (x : Nat), (∀ j, j < 200 → τ.2.1 j (x : Int) = dfF j) → cF 11 τ x = [.null, .int 0, .int 0, .null, .null, .null, .null, .null, .null, .int 0, .int 0, .null, .null, .null, .null, .null] := fun τ x h => by
  show cL 95 [true, false, false, true, true, true, true, true, true, false, false, true, true, true, true, true] τ x = _
  simp only [cL]
  rw [h 95 (by decide), h 96 (by decide), h 97 (by decide), h 98 (by decide), h 99 (by decide), h 100 (by decide), h 101 (by decide), h 102 (by decide), h 103 (by decide), h 104 (by decide), h 105 (by decide), h 106 (by decide), h 107 (by decide), h 108 (by decide), h 109 (by decide), h 110 (by decide)]
  rfl
end
section
theorem cd_X1_init : Cond.code yX1_init cX1_init 1 none ∈ pWW := pw1 (List.mem_of_getElem? (i := 75) rfl) rfl
abbrev m_X1_init : MT := (yX1_init, cX1_init, 1, none)
theorem ok_X1_init : pOk m_X1_init := ⟨⟨cd_X1_init, ini_1⟩, by decide +kernel, ⟨by decide +kernel, by decide +kernel⟩, Nat.le_of_ble_eq_true rfl⟩
theorem np_X1_init : (parseMethodDescriptor yX1_init.desc).map (fun d => d.parameters.length) = some 0 := by decide +kernel
theorem im_X1_init : Cond.instanceMethod yX1_init ∈ pWW := pw1 (List.mem_of_getElem? (i := 74) rfl) rfl
theorem mlo1_3 : Cond.methodLink RX1 3 objectInit ∈ pWW := pw1 (List.mem_of_getElem? (i := 76) rfl) rfl
theorem dX1_init_0 : decode cX1_init 0 = .ok (.aload_n 0, 1) := by decide +kernel
theorem dX1_init_1 : decode cX1_init 1 = .ok (.invokespecial 3, 3) := by decide +kernel
theorem dX1_init_4 : decode cX1_init 4 = .ok (.aload_n 0, 1) := by decide +kernel
theorem dX1_init_5 : decode cX1_init 5 = .ok (.sipush 208, 3) := by decide +kernel
theorem dX1_init_8 : decode cX1_init 8 = .ok (.newarray .int, 2) := by decide +kernel
theorem dX1_init_10 : decode cX1_init 10 = .ok (.putfield 9, 3) := by decide +kernel
theorem dX1_init_13 : decode cX1_init 13 = .ok (.aload_n 0, 1) := by decide +kernel
theorem dX1_init_14 : decode cX1_init 14 = .ok (.bipush 12, 2) := by decide +kernel
theorem dX1_init_16 : decode cX1_init 16 = .ok (.newarray .int, 2) := by decide +kernel
theorem dX1_init_18 : decode cX1_init 18 = .ok (.putfield 15, 3) := by decide +kernel
theorem dX1_init_21 : decode cX1_init 21 = .ok (.aload_n 0, 1) := by decide +kernel
theorem dX1_init_22 : decode cX1_init 22 = .ok (.bipush 12, 2) := by decide +kernel
theorem dX1_init_24 : decode cX1_init 24 = .ok (.newarray .int, 2) := by decide +kernel
theorem dX1_init_26 : decode cX1_init 26 = .ok (.putfield 18, 3) := by decide +kernel
theorem dX1_init_29 : decode cX1_init 29 = .ok (.aload_n 0, 1) := by decide +kernel
theorem dX1_init_30 : decode cX1_init 30 = .ok (.bipush 12, 2) := by decide +kernel
theorem dX1_init_32 : decode cX1_init 32 = .ok (.newarray .int, 2) := by decide +kernel
theorem dX1_init_34 : decode cX1_init 34 = .ok (.putfield 21, 3) := by decide +kernel
theorem dX1_init_37 : decode cX1_init 37 = .ok (.aload_n 0, 1) := by decide +kernel
theorem dX1_init_38 : decode cX1_init 38 = .ok (.bipush 12, 2) := by decide +kernel
theorem dX1_init_40 : decode cX1_init 40 = .ok (.newarray .int, 2) := by decide +kernel
theorem dX1_init_42 : decode cX1_init 42 = .ok (.putfield 24, 3) := by decide +kernel
theorem dX1_init_45 : decode cX1_init 45 = .ok (.aload_n 0, 1) := by decide +kernel
theorem dX1_init_46 : decode cX1_init 46 = .ok (.sipush 144, 3) := by decide +kernel
theorem dX1_init_49 : decode cX1_init 49 = .ok (.newarray .int, 2) := by decide +kernel
theorem dX1_init_51 : decode cX1_init 51 = .ok (.putfield 27, 3) := by decide +kernel
theorem dX1_init_54 : decode cX1_init 54 = .ok (.aload_n 0, 1) := by decide +kernel
theorem dX1_init_55 : decode cX1_init 55 = .ok (.bipush 13, 2) := by decide +kernel
theorem dX1_init_57 : decode cX1_init 57 = .ok (.newarray .int, 2) := by decide +kernel
theorem dX1_init_59 : decode cX1_init 59 = .ok (.putfield 30, 3) := by decide +kernel
theorem dX1_init_62 : decode cX1_init 62 = .ok (.return_, 1) := by decide +kernel
set_option maxRecDepth 20000 in
theorem kc_X1_init_31 (d : Nat) {T : CT} {σ : MS} {a : Nat} {K : List Nat} (hraw : T a = (80 + 1, 0)) (hb : WTn T σ) (hcd : CD K T) (hdf : ∀ j, j < 200 → σ.2.1 j (a : Int) = dfF j) : Tn (d + 1) m_X1_init 0 T σ [(0, .ref a)] [] (fun ro T2 σ2 => ro = none ∧ T2 a = (31, 0) ∧ WTn T2 σ2 ∧ CD (a :: K) T2 ∧ KPx a T σ T2 σ2 ∧ σ2.1 0 = σ.1 0 + (413 : Nat) ∧ σ2.1 1 = σ.1 1 + (7 : Nat) ∧ NX 7 a T T2 ∧ NX 41 a T T2) := by
  have cx0 : CX a 1 K 0 0 T σ T σ := CX.begin hraw hb hcd
  have nx7 : NX 7 a T T := NX.begin (by decide)
  have nx41 : NX 41 a T T := NX.begin (by decide)
  have f5 : σ.2.1 5 a = -1 := (hdf 5 (by decide)).trans (by decide)
  have f6 : σ.2.1 6 a = 0 := (hdf 6 (by decide)).trans (by decide)
  have f7 : σ.2.1 7 a = 0 := (hdf 7 (by decide)).trans (by decide)
  have f8 : σ.2.1 8 a = 0 := (hdf 8 (by decide)).trans (by decide)
  have f9 : σ.2.1 9 a = 0 := (hdf 9 (by decide)).trans (by decide)
  have f10 : σ.2.1 10 a = 0 := (hdf 10 (by decide)).trans (by decide)
  have f11 : σ.2.1 11 a = -1 := (hdf 11 (by decide)).trans (by decide)
  have f12 : σ.2.1 12 a = -1 := (hdf 12 (by decide)).trans (by decide)
  have f13 : σ.2.1 13 a = -1 := (hdf 13 (by decide)).trans (by decide)
  have f14 : σ.2.1 14 a = -1 := (hdf 14 (by decide)).trans (by decide)
  have f15 : σ.2.1 15 a = -1 := (hdf 15 (by decide)).trans (by decide)
  have f16 : σ.2.1 16 a = -1 := (hdf 16 (by decide)).trans (by decide)
  refine tn_aload_n dX1_init_0 rfl 0 rfl ?_
  refine tn_objInit dX1_init_1 mlo1_3 oiI oiC (by omega) (Nat.le_of_ble_eq_true rfl) ?_
  refine tn_aload_n dX1_init_4 rfl 0 rfl ?_
  refine tn_sipush dX1_init_5 (by decide) ?_
  refine tn_newI (N := 208) (k := 13) dX1_init_8 arC_int (by decide) rfl (by decide) (fun x1 hx2 => ?_)
  have ne3 := cx0.ne hx2
  obtain ⟨T4, σ5, eT6, eS7, cx8, f5, f6, f7, f8, f9, f10, f11, f12, f13, f14, f15, f16, o9, nx7, nx41⟩ : ∃ (T4 : CT) (σ5 : MS), T4 = (tT T x1 13 208) ∧ σ5 = (rowS (1000 + x1) (fun _ => 0) (gh 208 σ)) ∧ CX a 1 K 208 1 T σ T4 σ5 ∧ (σ5.2.1 5 a = -1) ∧ (σ5.2.1 6 a = 0) ∧ (σ5.2.1 7 a = 0) ∧ (σ5.2.1 8 a = 0) ∧ (σ5.2.1 9 a = 0) ∧ (σ5.2.1 10 a = 0) ∧ (σ5.2.1 11 a = -1) ∧ (σ5.2.1 12 a = -1) ∧ (σ5.2.1 13 a = -1) ∧ (σ5.2.1 14 a = -1) ∧ (σ5.2.1 15 a = -1) ∧ (σ5.2.1 16 a = -1) ∧ (T4 x1 = (13, 208)) ∧ NX 7 a T T4 ∧ NX 41 a T T4 := ⟨_, _, rfl, rfl, (cx0.newI hx2 (by decide)), (by rw [rowS_ne (by omega)]; exact f5), (by rw [rowS_ne (by omega)]; exact f6), (by rw [rowS_ne (by omega)]; exact f7), (by rw [rowS_ne (by omega)]; exact f8), (by rw [rowS_ne (by omega)]; exact f9), (by rw [rowS_ne (by omega)]; exact f10), (by rw [rowS_ne (by omega)]; exact f11), (by rw [rowS_ne (by omega)]; exact f12), (by rw [rowS_ne (by omega)]; exact f13), (by rw [rowS_ne (by omega)]; exact f14), (by rw [rowS_ne (by omega)]; exact f15), (by rw [rowS_ne (by omega)]; exact f16), tT_eq, (nx7.mk9 (by decide)), (nx41.mk9 (by decide))⟩
  rw [← eT6]
  rw [← eS7]
  refine tn_putVr (ci := 1) (i := 0) (n := 5) (r := true) (v := (x1 : Int)) tyX1 tyX1_ok nmX1 dX1_init_10 rfl lay_1 (by decide) fl1_9 rfl (tyX1_ok 0 (by decide)) (vl_ref rfl).symm rfl rfl (cx8.r (by decide)) rfl rfl ?_
  obtain ⟨σ11, eS13, cx14, f5, f6, f7, f8, f9, f10, f11, f12, f13, f14, f15, f16⟩ : ∃ (σ11 : MS), σ11 = (sA 5 a ((x1 : Int)) σ5) ∧ CX a 1 K 208 1 T σ T4 σ11 ∧ (σ11.2.1 5 a = (x1 : Int)) ∧ (σ11.2.1 6 a = 0) ∧ (σ11.2.1 7 a = 0) ∧ (σ11.2.1 8 a = 0) ∧ (σ11.2.1 9 a = 0) ∧ (σ11.2.1 10 a = 0) ∧ (σ11.2.1 11 a = -1) ∧ (σ11.2.1 12 a = -1) ∧ (σ11.2.1 13 a = -1) ∧ (σ11.2.1 14 a = -1) ∧ (σ11.2.1 15 a = -1) ∧ (σ11.2.1 16 a = -1) := ⟨_, rfl, (cx8.put (by decide)), ra_eq, (rc_o (by decide) f6), (rc_o (by decide) f7), (rc_o (by decide) f8), (rc_o (by decide) f9), (rc_o (by decide) f10), (rc_o (by decide) f11), (rc_o (by decide) f12), (rc_o (by decide) f13), (rc_o (by decide) f14), (rc_o (by decide) f15), (rc_o (by decide) f16)⟩
  rw [← eS13]
  refine tn_aload_n dX1_init_13 rfl 0 rfl ?_
  refine tn_bipush dX1_init_14 (by decide) ?_
  refine tn_newI (N := 12) (k := 1) dX1_init_16 arC_int (by decide) rfl (by decide) (fun x15 hx16 => ?_)
  have ne17 := cx14.ne hx16
  obtain ⟨T18, σ19, eT20, eS21, cx22, f5, f6, f7, f8, f9, f10, f11, f12, f13, f14, f15, f16, o23, o24, nx7, nx41⟩ : ∃ (T18 : CT) (σ19 : MS), T18 = (tT T4 x15 1 12) ∧ σ19 = (rowS (1000 + x15) (fun _ => 0) (gh 12 σ11)) ∧ CX a 1 K 220 2 T σ T18 σ19 ∧ (σ19.2.1 5 a = (x1 : Int)) ∧ (σ19.2.1 6 a = 0) ∧ (σ19.2.1 7 a = 0) ∧ (σ19.2.1 8 a = 0) ∧ (σ19.2.1 9 a = 0) ∧ (σ19.2.1 10 a = 0) ∧ (σ19.2.1 11 a = -1) ∧ (σ19.2.1 12 a = -1) ∧ (σ19.2.1 13 a = -1) ∧ (σ19.2.1 14 a = -1) ∧ (σ19.2.1 15 a = -1) ∧ (σ19.2.1 16 a = -1) ∧ (T18 x1 = (13, 208)) ∧ (T18 x15 = (1, 12)) ∧ NX 7 a T T18 ∧ NX 41 a T T18 := ⟨_, _, rfl, rfl, (cx14.newI hx16 (by decide)), (by rw [rowS_ne (by omega)]; exact f5), (by rw [rowS_ne (by omega)]; exact f6), (by rw [rowS_ne (by omega)]; exact f7), (by rw [rowS_ne (by omega)]; exact f8), (by rw [rowS_ne (by omega)]; exact f9), (by rw [rowS_ne (by omega)]; exact f10), (by rw [rowS_ne (by omega)]; exact f11), (by rw [rowS_ne (by omega)]; exact f12), (by rw [rowS_ne (by omega)]; exact f13), (by rw [rowS_ne (by omega)]; exact f14), (by rw [rowS_ne (by omega)]; exact f15), (by rw [rowS_ne (by omega)]; exact f16), (tk_keep o9 (by decide) hx16), tT_eq, (nx7.mk9 (by decide)), (nx41.mk9 (by decide))⟩
  rw [← eT20]
  rw [← eS21]
  refine tn_putFr (ci := 1) (i := 6) (n := 11) (r := true) (v := (x15 : Int)) tyX1 tyX1_ok nmX1 dX1_init_18 rfl lay_1 (by decide) fl1_15 rfl rfl rfl (tyX1_ok 6 (by decide)) (vl_ref rfl).symm rfl rfl (cx22.r (by decide)) rfl rfl ?_
  obtain ⟨σ26, eS28, cx29, f5, f6, f7, f8, f9, f10, f11, f12, f13, f14, f15, f16⟩ : ∃ (σ26 : MS), σ26 = (sA 11 a ((x15 : Int)) σ19) ∧ CX a 1 K 220 2 T σ T18 σ26 ∧ (σ26.2.1 5 a = (x1 : Int)) ∧ (σ26.2.1 6 a = 0) ∧ (σ26.2.1 7 a = 0) ∧ (σ26.2.1 8 a = 0) ∧ (σ26.2.1 9 a = 0) ∧ (σ26.2.1 10 a = 0) ∧ (σ26.2.1 11 a = (x15 : Int)) ∧ (σ26.2.1 12 a = -1) ∧ (σ26.2.1 13 a = -1) ∧ (σ26.2.1 14 a = -1) ∧ (σ26.2.1 15 a = -1) ∧ (σ26.2.1 16 a = -1) := ⟨_, rfl, (cx22.put (by decide)), (rc_o (by decide) f5), (rc_o (by decide) f6), (rc_o (by decide) f7), (rc_o (by decide) f8), (rc_o (by decide) f9), (rc_o (by decide) f10), ra_eq, (rc_o (by decide) f12), (rc_o (by decide) f13), (rc_o (by decide) f14), (rc_o (by decide) f15), (rc_o (by decide) f16)⟩
  rw [← eS28]
  refine tn_aload_n dX1_init_21 rfl 0 rfl ?_
  refine tn_bipush dX1_init_22 (by decide) ?_
  refine tn_newI (N := 12) (k := 1) dX1_init_24 arC_int (by decide) rfl (by decide) (fun x30 hx31 => ?_)
  have ne32 := cx29.ne hx31
  obtain ⟨T33, σ34, eT35, eS36, cx37, f5, f6, f7, f8, f9, f10, f11, f12, f13, f14, f15, f16, o38, o39, o40, nx7, nx41⟩ : ∃ (T33 : CT) (σ34 : MS), T33 = (tT T18 x30 1 12) ∧ σ34 = (rowS (1000 + x30) (fun _ => 0) (gh 12 σ26)) ∧ CX a 1 K 232 3 T σ T33 σ34 ∧ (σ34.2.1 5 a = (x1 : Int)) ∧ (σ34.2.1 6 a = 0) ∧ (σ34.2.1 7 a = 0) ∧ (σ34.2.1 8 a = 0) ∧ (σ34.2.1 9 a = 0) ∧ (σ34.2.1 10 a = 0) ∧ (σ34.2.1 11 a = (x15 : Int)) ∧ (σ34.2.1 12 a = -1) ∧ (σ34.2.1 13 a = -1) ∧ (σ34.2.1 14 a = -1) ∧ (σ34.2.1 15 a = -1) ∧ (σ34.2.1 16 a = -1) ∧ (T33 x1 = (13, 208)) ∧ (T33 x15 = (1, 12)) ∧ (T33 x30 = (1, 12)) ∧ NX 7 a T T33 ∧ NX 41 a T T33 := ⟨_, _, rfl, rfl, (cx29.newI hx31 (by decide)), (by rw [rowS_ne (by omega)]; exact f5), (by rw [rowS_ne (by omega)]; exact f6), (by rw [rowS_ne (by omega)]; exact f7), (by rw [rowS_ne (by omega)]; exact f8), (by rw [rowS_ne (by omega)]; exact f9), (by rw [rowS_ne (by omega)]; exact f10), (by rw [rowS_ne (by omega)]; exact f11), (by rw [rowS_ne (by omega)]; exact f12), (by rw [rowS_ne (by omega)]; exact f13), (by rw [rowS_ne (by omega)]; exact f14), (by rw [rowS_ne (by omega)]; exact f15), (by rw [rowS_ne (by omega)]; exact f16), (tk_keep o23 (by decide) hx31), (tk_keep o24 (by decide) hx31), tT_eq, (nx7.mk9 (by decide)), (nx41.mk9 (by decide))⟩
  rw [← eT35]
  rw [← eS36]
  refine tn_putFr (ci := 1) (i := 7) (n := 12) (r := true) (v := (x30 : Int)) tyX1 tyX1_ok nmX1 dX1_init_26 rfl lay_1 (by decide) fl1_18 rfl rfl rfl (tyX1_ok 7 (by decide)) (vl_ref rfl).symm rfl rfl (cx37.r (by decide)) rfl rfl ?_
  obtain ⟨σ42, eS44, cx45, f5, f6, f7, f8, f9, f10, f11, f12, f13, f14, f15, f16⟩ : ∃ (σ42 : MS), σ42 = (sA 12 a ((x30 : Int)) σ34) ∧ CX a 1 K 232 3 T σ T33 σ42 ∧ (σ42.2.1 5 a = (x1 : Int)) ∧ (σ42.2.1 6 a = 0) ∧ (σ42.2.1 7 a = 0) ∧ (σ42.2.1 8 a = 0) ∧ (σ42.2.1 9 a = 0) ∧ (σ42.2.1 10 a = 0) ∧ (σ42.2.1 11 a = (x15 : Int)) ∧ (σ42.2.1 12 a = (x30 : Int)) ∧ (σ42.2.1 13 a = -1) ∧ (σ42.2.1 14 a = -1) ∧ (σ42.2.1 15 a = -1) ∧ (σ42.2.1 16 a = -1) := ⟨_, rfl, (cx37.put (by decide)), (rc_o (by decide) f5), (rc_o (by decide) f6), (rc_o (by decide) f7), (rc_o (by decide) f8), (rc_o (by decide) f9), (rc_o (by decide) f10), (rc_o (by decide) f11), ra_eq, (rc_o (by decide) f13), (rc_o (by decide) f14), (rc_o (by decide) f15), (rc_o (by decide) f16)⟩
  rw [← eS44]
  refine tn_aload_n dX1_init_29 rfl 0 rfl ?_
  refine tn_bipush dX1_init_30 (by decide) ?_
  refine tn_newI (N := 12) (k := 1) dX1_init_32 arC_int (by decide) rfl (by decide) (fun x46 hx47 => ?_)
  have ne48 := cx45.ne hx47
  obtain ⟨T49, σ50, eT51, eS52, cx53, f5, f6, f7, f8, f9, f10, f11, f12, f13, f14, f15, f16, o54, o55, o56, o57, nx7, nx41⟩ : ∃ (T49 : CT) (σ50 : MS), T49 = (tT T33 x46 1 12) ∧ σ50 = (rowS (1000 + x46) (fun _ => 0) (gh 12 σ42)) ∧ CX a 1 K 244 4 T σ T49 σ50 ∧ (σ50.2.1 5 a = (x1 : Int)) ∧ (σ50.2.1 6 a = 0) ∧ (σ50.2.1 7 a = 0) ∧ (σ50.2.1 8 a = 0) ∧ (σ50.2.1 9 a = 0) ∧ (σ50.2.1 10 a = 0) ∧ (σ50.2.1 11 a = (x15 : Int)) ∧ (σ50.2.1 12 a = (x30 : Int)) ∧ (σ50.2.1 13 a = -1) ∧ (σ50.2.1 14 a = -1) ∧ (σ50.2.1 15 a = -1) ∧ (σ50.2.1 16 a = -1) ∧ (T49 x1 = (13, 208)) ∧ (T49 x15 = (1, 12)) ∧ (T49 x30 = (1, 12)) ∧ (T49 x46 = (1, 12)) ∧ NX 7 a T T49 ∧ NX 41 a T T49 := ⟨_, _, rfl, rfl, (cx45.newI hx47 (by decide)), (by rw [rowS_ne (by omega)]; exact f5), (by rw [rowS_ne (by omega)]; exact f6), (by rw [rowS_ne (by omega)]; exact f7), (by rw [rowS_ne (by omega)]; exact f8), (by rw [rowS_ne (by omega)]; exact f9), (by rw [rowS_ne (by omega)]; exact f10), (by rw [rowS_ne (by omega)]; exact f11), (by rw [rowS_ne (by omega)]; exact f12), (by rw [rowS_ne (by omega)]; exact f13), (by rw [rowS_ne (by omega)]; exact f14), (by rw [rowS_ne (by omega)]; exact f15), (by rw [rowS_ne (by omega)]; exact f16), (tk_keep o38 (by decide) hx47), (tk_keep o39 (by decide) hx47), (tk_keep o40 (by decide) hx47), tT_eq, (nx7.mk9 (by decide)), (nx41.mk9 (by decide))⟩
  rw [← eT51]
  rw [← eS52]
  refine tn_putFr (ci := 1) (i := 8) (n := 13) (r := true) (v := (x46 : Int)) tyX1 tyX1_ok nmX1 dX1_init_34 rfl lay_1 (by decide) fl1_21 rfl rfl rfl (tyX1_ok 8 (by decide)) (vl_ref rfl).symm rfl rfl (cx53.r (by decide)) rfl rfl ?_
  obtain ⟨σ59, eS61, cx62, f5, f6, f7, f8, f9, f10, f11, f12, f13, f14, f15, f16⟩ : ∃ (σ59 : MS), σ59 = (sA 13 a ((x46 : Int)) σ50) ∧ CX a 1 K 244 4 T σ T49 σ59 ∧ (σ59.2.1 5 a = (x1 : Int)) ∧ (σ59.2.1 6 a = 0) ∧ (σ59.2.1 7 a = 0) ∧ (σ59.2.1 8 a = 0) ∧ (σ59.2.1 9 a = 0) ∧ (σ59.2.1 10 a = 0) ∧ (σ59.2.1 11 a = (x15 : Int)) ∧ (σ59.2.1 12 a = (x30 : Int)) ∧ (σ59.2.1 13 a = (x46 : Int)) ∧ (σ59.2.1 14 a = -1) ∧ (σ59.2.1 15 a = -1) ∧ (σ59.2.1 16 a = -1) := ⟨_, rfl, (cx53.put (by decide)), (rc_o (by decide) f5), (rc_o (by decide) f6), (rc_o (by decide) f7), (rc_o (by decide) f8), (rc_o (by decide) f9), (rc_o (by decide) f10), (rc_o (by decide) f11), (rc_o (by decide) f12), ra_eq, (rc_o (by decide) f14), (rc_o (by decide) f15), (rc_o (by decide) f16)⟩
  rw [← eS61]
  refine tn_aload_n dX1_init_37 rfl 0 rfl ?_
  refine tn_bipush dX1_init_38 (by decide) ?_
  refine tn_newI (N := 12) (k := 11) dX1_init_40 arC_int (by decide) rfl (by decide) (fun x63 hx64 => ?_)
  have ne65 := cx62.ne hx64
  obtain ⟨T66, σ67, eT68, eS69, cx70, f5, f6, f7, f8, f9, f10, f11, f12, f13, f14, f15, f16, o71, o72, o73, o74, o75, nx7, nx41⟩ : ∃ (T66 : CT) (σ67 : MS), T66 = (tT T49 x63 11 12) ∧ σ67 = (rowS (1000 + x63) (fun _ => 0) (gh 12 σ59)) ∧ CX a 1 K 256 5 T σ T66 σ67 ∧ (σ67.2.1 5 a = (x1 : Int)) ∧ (σ67.2.1 6 a = 0) ∧ (σ67.2.1 7 a = 0) ∧ (σ67.2.1 8 a = 0) ∧ (σ67.2.1 9 a = 0) ∧ (σ67.2.1 10 a = 0) ∧ (σ67.2.1 11 a = (x15 : Int)) ∧ (σ67.2.1 12 a = (x30 : Int)) ∧ (σ67.2.1 13 a = (x46 : Int)) ∧ (σ67.2.1 14 a = -1) ∧ (σ67.2.1 15 a = -1) ∧ (σ67.2.1 16 a = -1) ∧ (T66 x1 = (13, 208)) ∧ (T66 x15 = (1, 12)) ∧ (T66 x30 = (1, 12)) ∧ (T66 x46 = (1, 12)) ∧ (T66 x63 = (11, 12)) ∧ NX 7 a T T66 ∧ NX 41 a T T66 := ⟨_, _, rfl, rfl, (cx62.newI hx64 (by decide)), (by rw [rowS_ne (by omega)]; exact f5), (by rw [rowS_ne (by omega)]; exact f6), (by rw [rowS_ne (by omega)]; exact f7), (by rw [rowS_ne (by omega)]; exact f8), (by rw [rowS_ne (by omega)]; exact f9), (by rw [rowS_ne (by omega)]; exact f10), (by rw [rowS_ne (by omega)]; exact f11), (by rw [rowS_ne (by omega)]; exact f12), (by rw [rowS_ne (by omega)]; exact f13), (by rw [rowS_ne (by omega)]; exact f14), (by rw [rowS_ne (by omega)]; exact f15), (by rw [rowS_ne (by omega)]; exact f16), (tk_keep o54 (by decide) hx64), (tk_keep o55 (by decide) hx64), (tk_keep o56 (by decide) hx64), (tk_keep o57 (by decide) hx64), tT_eq, (nx7.mk9 (by decide)), (nx41.mk9 (by decide))⟩
  rw [← eT68]
  rw [← eS69]
  refine tn_putFr (ci := 1) (i := 9) (n := 14) (r := true) (v := (x63 : Int)) tyX1 tyX1_ok nmX1 dX1_init_42 rfl lay_1 (by decide) fl1_24 rfl rfl rfl (tyX1_ok 9 (by decide)) (vl_ref rfl).symm rfl rfl (cx70.r (by decide)) rfl rfl ?_
  obtain ⟨σ77, eS79, cx80, f5, f6, f7, f8, f9, f10, f11, f12, f13, f14, f15, f16⟩ : ∃ (σ77 : MS), σ77 = (sA 14 a ((x63 : Int)) σ67) ∧ CX a 1 K 256 5 T σ T66 σ77 ∧ (σ77.2.1 5 a = (x1 : Int)) ∧ (σ77.2.1 6 a = 0) ∧ (σ77.2.1 7 a = 0) ∧ (σ77.2.1 8 a = 0) ∧ (σ77.2.1 9 a = 0) ∧ (σ77.2.1 10 a = 0) ∧ (σ77.2.1 11 a = (x15 : Int)) ∧ (σ77.2.1 12 a = (x30 : Int)) ∧ (σ77.2.1 13 a = (x46 : Int)) ∧ (σ77.2.1 14 a = (x63 : Int)) ∧ (σ77.2.1 15 a = -1) ∧ (σ77.2.1 16 a = -1) := ⟨_, rfl, (cx70.put (by decide)), (rc_o (by decide) f5), (rc_o (by decide) f6), (rc_o (by decide) f7), (rc_o (by decide) f8), (rc_o (by decide) f9), (rc_o (by decide) f10), (rc_o (by decide) f11), (rc_o (by decide) f12), (rc_o (by decide) f13), ra_eq, (rc_o (by decide) f15), (rc_o (by decide) f16)⟩
  rw [← eS79]
  refine tn_aload_n dX1_init_45 rfl 0 rfl ?_
  refine tn_sipush dX1_init_46 (by decide) ?_
  refine tn_newI (N := 144) (k := 1) dX1_init_49 arC_int (by decide) rfl (by decide) (fun x81 hx82 => ?_)
  have ne83 := cx80.ne hx82
  obtain ⟨T84, σ85, eT86, eS87, cx88, f5, f6, f7, f8, f9, f10, f11, f12, f13, f14, f15, f16, o89, o90, o91, o92, o93, o94, nx7, nx41⟩ : ∃ (T84 : CT) (σ85 : MS), T84 = (tT T66 x81 1 144) ∧ σ85 = (rowS (1000 + x81) (fun _ => 0) (gh 144 σ77)) ∧ CX a 1 K 400 6 T σ T84 σ85 ∧ (σ85.2.1 5 a = (x1 : Int)) ∧ (σ85.2.1 6 a = 0) ∧ (σ85.2.1 7 a = 0) ∧ (σ85.2.1 8 a = 0) ∧ (σ85.2.1 9 a = 0) ∧ (σ85.2.1 10 a = 0) ∧ (σ85.2.1 11 a = (x15 : Int)) ∧ (σ85.2.1 12 a = (x30 : Int)) ∧ (σ85.2.1 13 a = (x46 : Int)) ∧ (σ85.2.1 14 a = (x63 : Int)) ∧ (σ85.2.1 15 a = -1) ∧ (σ85.2.1 16 a = -1) ∧ (T84 x1 = (13, 208)) ∧ (T84 x15 = (1, 12)) ∧ (T84 x30 = (1, 12)) ∧ (T84 x46 = (1, 12)) ∧ (T84 x63 = (11, 12)) ∧ (T84 x81 = (1, 144)) ∧ NX 7 a T T84 ∧ NX 41 a T T84 := ⟨_, _, rfl, rfl, (cx80.newI hx82 (by decide)), (by rw [rowS_ne (by omega)]; exact f5), (by rw [rowS_ne (by omega)]; exact f6), (by rw [rowS_ne (by omega)]; exact f7), (by rw [rowS_ne (by omega)]; exact f8), (by rw [rowS_ne (by omega)]; exact f9), (by rw [rowS_ne (by omega)]; exact f10), (by rw [rowS_ne (by omega)]; exact f11), (by rw [rowS_ne (by omega)]; exact f12), (by rw [rowS_ne (by omega)]; exact f13), (by rw [rowS_ne (by omega)]; exact f14), (by rw [rowS_ne (by omega)]; exact f15), (by rw [rowS_ne (by omega)]; exact f16), (tk_keep o71 (by decide) hx82), (tk_keep o72 (by decide) hx82), (tk_keep o73 (by decide) hx82), (tk_keep o74 (by decide) hx82), (tk_keep o75 (by decide) hx82), tT_eq, (nx7.mk9 (by decide)), (nx41.mk9 (by decide))⟩
  rw [← eT86]
  rw [← eS87]
  refine tn_putFr (ci := 1) (i := 10) (n := 15) (r := true) (v := (x81 : Int)) tyX1 tyX1_ok nmX1 dX1_init_51 rfl lay_1 (by decide) fl1_27 rfl rfl rfl (tyX1_ok 10 (by decide)) (vl_ref rfl).symm rfl rfl (cx88.r (by decide)) rfl rfl ?_
  obtain ⟨σ96, eS98, cx99, f5, f6, f7, f8, f9, f10, f11, f12, f13, f14, f15, f16⟩ : ∃ (σ96 : MS), σ96 = (sA 15 a ((x81 : Int)) σ85) ∧ CX a 1 K 400 6 T σ T84 σ96 ∧ (σ96.2.1 5 a = (x1 : Int)) ∧ (σ96.2.1 6 a = 0) ∧ (σ96.2.1 7 a = 0) ∧ (σ96.2.1 8 a = 0) ∧ (σ96.2.1 9 a = 0) ∧ (σ96.2.1 10 a = 0) ∧ (σ96.2.1 11 a = (x15 : Int)) ∧ (σ96.2.1 12 a = (x30 : Int)) ∧ (σ96.2.1 13 a = (x46 : Int)) ∧ (σ96.2.1 14 a = (x63 : Int)) ∧ (σ96.2.1 15 a = (x81 : Int)) ∧ (σ96.2.1 16 a = -1) := ⟨_, rfl, (cx88.put (by decide)), (rc_o (by decide) f5), (rc_o (by decide) f6), (rc_o (by decide) f7), (rc_o (by decide) f8), (rc_o (by decide) f9), (rc_o (by decide) f10), (rc_o (by decide) f11), (rc_o (by decide) f12), (rc_o (by decide) f13), (rc_o (by decide) f14), ra_eq, (rc_o (by decide) f16)⟩
  rw [← eS98]
  refine tn_aload_n dX1_init_54 rfl 0 rfl ?_
  refine tn_bipush dX1_init_55 (by decide) ?_
  refine tn_newI (N := 13) (k := 1) dX1_init_57 arC_int (by decide) rfl (by decide) (fun x100 hx101 => ?_)
  have ne102 := cx99.ne hx101
  obtain ⟨T103, σ104, eT105, eS106, cx107, f5, f6, f7, f8, f9, f10, f11, f12, f13, f14, f15, f16, o108, o109, o110, o111, o112, o113, o114, nx7, nx41⟩ : ∃ (T103 : CT) (σ104 : MS), T103 = (tT T84 x100 1 13) ∧ σ104 = (rowS (1000 + x100) (fun _ => 0) (gh 13 σ96)) ∧ CX a 1 K 413 7 T σ T103 σ104 ∧ (σ104.2.1 5 a = (x1 : Int)) ∧ (σ104.2.1 6 a = 0) ∧ (σ104.2.1 7 a = 0) ∧ (σ104.2.1 8 a = 0) ∧ (σ104.2.1 9 a = 0) ∧ (σ104.2.1 10 a = 0) ∧ (σ104.2.1 11 a = (x15 : Int)) ∧ (σ104.2.1 12 a = (x30 : Int)) ∧ (σ104.2.1 13 a = (x46 : Int)) ∧ (σ104.2.1 14 a = (x63 : Int)) ∧ (σ104.2.1 15 a = (x81 : Int)) ∧ (σ104.2.1 16 a = -1) ∧ (T103 x1 = (13, 208)) ∧ (T103 x15 = (1, 12)) ∧ (T103 x30 = (1, 12)) ∧ (T103 x46 = (1, 12)) ∧ (T103 x63 = (11, 12)) ∧ (T103 x81 = (1, 144)) ∧ (T103 x100 = (1, 13)) ∧ NX 7 a T T103 ∧ NX 41 a T T103 := ⟨_, _, rfl, rfl, (cx99.newI hx101 (by decide)), (by rw [rowS_ne (by omega)]; exact f5), (by rw [rowS_ne (by omega)]; exact f6), (by rw [rowS_ne (by omega)]; exact f7), (by rw [rowS_ne (by omega)]; exact f8), (by rw [rowS_ne (by omega)]; exact f9), (by rw [rowS_ne (by omega)]; exact f10), (by rw [rowS_ne (by omega)]; exact f11), (by rw [rowS_ne (by omega)]; exact f12), (by rw [rowS_ne (by omega)]; exact f13), (by rw [rowS_ne (by omega)]; exact f14), (by rw [rowS_ne (by omega)]; exact f15), (by rw [rowS_ne (by omega)]; exact f16), (tk_keep o89 (by decide) hx101), (tk_keep o90 (by decide) hx101), (tk_keep o91 (by decide) hx101), (tk_keep o92 (by decide) hx101), (tk_keep o93 (by decide) hx101), (tk_keep o94 (by decide) hx101), tT_eq, (nx7.mk9 (by decide)), (nx41.mk9 (by decide))⟩
  rw [← eT105]
  rw [← eS106]
  refine tn_putFr (ci := 1) (i := 11) (n := 16) (r := true) (v := (x100 : Int)) tyX1 tyX1_ok nmX1 dX1_init_59 rfl lay_1 (by decide) fl1_30 rfl rfl rfl (tyX1_ok 11 (by decide)) (vl_ref rfl).symm rfl rfl (cx107.r (by decide)) rfl rfl ?_
  obtain ⟨σ116, eS118, cx119, f5, f6, f7, f8, f9, f10, f11, f12, f13, f14, f15, f16⟩ : ∃ (σ116 : MS), σ116 = (sA 16 a ((x100 : Int)) σ104) ∧ CX a 1 K 413 7 T σ T103 σ116 ∧ (σ116.2.1 5 a = (x1 : Int)) ∧ (σ116.2.1 6 a = 0) ∧ (σ116.2.1 7 a = 0) ∧ (σ116.2.1 8 a = 0) ∧ (σ116.2.1 9 a = 0) ∧ (σ116.2.1 10 a = 0) ∧ (σ116.2.1 11 a = (x15 : Int)) ∧ (σ116.2.1 12 a = (x30 : Int)) ∧ (σ116.2.1 13 a = (x46 : Int)) ∧ (σ116.2.1 14 a = (x63 : Int)) ∧ (σ116.2.1 15 a = (x81 : Int)) ∧ (σ116.2.1 16 a = (x100 : Int)) := ⟨_, rfl, (cx107.put (by decide)), (rc_o (by decide) f5), (rc_o (by decide) f6), (rc_o (by decide) f7), (rc_o (by decide) f8), (rc_o (by decide) f9), (rc_o (by decide) f10), (rc_o (by decide) f11), (rc_o (by decide) f12), (rc_o (by decide) f13), (rc_o (by decide) f14), (rc_o (by decide) f15), ra_eq⟩
  rw [← eS118]
  refine tn_tag (ci := 1) (k := 31) (by decide) cx119.1 (by decide) ?_
  have hf9 : ∀ m, m < 111 → cls m = 1 → FO m 31 T103 (σ116.2.1 m a) := fun m hm9 hc9 => by
    have q9 := clsR_1 m hm9 hc9
    have q8 : m = 5 ∨ m = 6 ∨ m = 7 ∨ m = 8 ∨ m = 9 ∨ m = 10 ∨ m = 11 ∨ m = 12 ∨ m = 13 ∨ m = 14 ∨ m = 15 ∨ m = 16 := by omega
    rcases q8 with q8 | q8 | q8 | q8 | q8 | q8 | q8 | q8 | q8 | q8 | q8 | q8
    · subst q8; rw [f5]; exact fo_5 ⟨_, rfl, ⟨by rw [o108]; decide, by rw [o108]; decide⟩, fun h => absurd h (by decide), fun _ => tg1 o108⟩
    · subst q8; rw [f6]; exact fo_6 (by decide)
    · subst q8; rw [f7]; exact fo_7 (by decide)
    · subst q8; rw [f8]; exact fo_8 (by decide)
    · subst q8; rw [f9]; exact fo_9 (by decide)
    · subst q8; rw [f10]; exact fo_10 (by decide)
    · subst q8; rw [f11]; exact fo_11 (⟨_, rfl, AR.of o109 (by decide) (by decide)⟩)
    · subst q8; rw [f12]; exact fo_12 (⟨_, rfl, AR.of o110 (by decide) (by decide)⟩)
    · subst q8; rw [f13]; exact fo_13 (⟨_, rfl, AR.of o111 (by decide) (by decide)⟩)
    · subst q8; rw [f14]; exact fo_14 (⟨_, rfl, AR.of o112 (by decide) (by decide)⟩)
    · subst q8; rw [f15]; exact fo_15 (⟨_, rfl, AR.of o113 (by decide) (by decide)⟩)
    · subst q8; rw [f16]; exact fo_16 (⟨_, rfl, AR.of o114 (by decide) (by decide)⟩)
  exact tn_vret rfl dX1_init_62 ⟨rfl, tT_eq, cx119.2.1.tag cx119.1 (by decide) hf9 (fun _ y _ => Or.inl (by rw [f6]; omega)), cx119.2.2.1.tagC (by decide), cx119.2.2.2.1.tag, cx119.2.2.2.2.1, cx119.2.2.2.2.2, nx7.tag, nx41.tag⟩
end
section
set_option maxRecDepth 20000 in
theorem kc_X1_init_50 (d : Nat) {T : CT} {σ : MS} {a : Nat} {K : List Nat} (hraw : T a = (80 + 1, 0)) (hb : WTn T σ) (hcd : CD K T) (hdf : ∀ j, j < 200 → σ.2.1 j (a : Int) = dfF j) : Tn (d + 1) m_X1_init 0 T σ [(0, .ref a)] [] (fun ro T2 σ2 => ro = none ∧ T2 a = (50, 0) ∧ WTn T2 σ2 ∧ CD (a :: K) T2 ∧ KPx a T σ T2 σ2 ∧ σ2.1 0 = σ.1 0 + (413 : Nat) ∧ σ2.1 1 = σ.1 1 + (7 : Nat) ∧ NX 7 a T T2 ∧ NX 41 a T T2) := by
  have cx0 : CX a 1 K 0 0 T σ T σ := CX.begin hraw hb hcd
  have nx7 : NX 7 a T T := NX.begin (by decide)
  have nx41 : NX 41 a T T := NX.begin (by decide)
  have f5 : σ.2.1 5 a = -1 := (hdf 5 (by decide)).trans (by decide)
  have f6 : σ.2.1 6 a = 0 := (hdf 6 (by decide)).trans (by decide)
  have f7 : σ.2.1 7 a = 0 := (hdf 7 (by decide)).trans (by decide)
  have f8 : σ.2.1 8 a = 0 := (hdf 8 (by decide)).trans (by decide)
  have f9 : σ.2.1 9 a = 0 := (hdf 9 (by decide)).trans (by decide)
  have f10 : σ.2.1 10 a = 0 := (hdf 10 (by decide)).trans (by decide)
  have f11 : σ.2.1 11 a = -1 := (hdf 11 (by decide)).trans (by decide)
  have f12 : σ.2.1 12 a = -1 := (hdf 12 (by decide)).trans (by decide)
  have f13 : σ.2.1 13 a = -1 := (hdf 13 (by decide)).trans (by decide)
  have f14 : σ.2.1 14 a = -1 := (hdf 14 (by decide)).trans (by decide)
  have f15 : σ.2.1 15 a = -1 := (hdf 15 (by decide)).trans (by decide)
  have f16 : σ.2.1 16 a = -1 := (hdf 16 (by decide)).trans (by decide)
  refine tn_aload_n dX1_init_0 rfl 0 rfl ?_
  refine tn_objInit dX1_init_1 mlo1_3 oiI oiC (by omega) (Nat.le_of_ble_eq_true rfl) ?_
  refine tn_aload_n dX1_init_4 rfl 0 rfl ?_
  refine tn_sipush dX1_init_5 (by decide) ?_
  refine tn_newI (N := 208) (k := 1) dX1_init_8 arC_int (by decide) rfl (by decide) (fun x1 hx2 => ?_)
  have ne3 := cx0.ne hx2
  obtain ⟨T4, σ5, eT6, eS7, cx8, f5, f6, f7, f8, f9, f10, f11, f12, f13, f14, f15, f16, o9, nx7, nx41⟩ : ∃ (T4 : CT) (σ5 : MS), T4 = (tT T x1 1 208) ∧ σ5 = (rowS (1000 + x1) (fun _ => 0) (gh 208 σ)) ∧ CX a 1 K 208 1 T σ T4 σ5 ∧ (σ5.2.1 5 a = -1) ∧ (σ5.2.1 6 a = 0) ∧ (σ5.2.1 7 a = 0) ∧ (σ5.2.1 8 a = 0) ∧ (σ5.2.1 9 a = 0) ∧ (σ5.2.1 10 a = 0) ∧ (σ5.2.1 11 a = -1) ∧ (σ5.2.1 12 a = -1) ∧ (σ5.2.1 13 a = -1) ∧ (σ5.2.1 14 a = -1) ∧ (σ5.2.1 15 a = -1) ∧ (σ5.2.1 16 a = -1) ∧ (T4 x1 = (1, 208)) ∧ NX 7 a T T4 ∧ NX 41 a T T4 := ⟨_, _, rfl, rfl, (cx0.newI hx2 (by decide)), (by rw [rowS_ne (by omega)]; exact f5), (by rw [rowS_ne (by omega)]; exact f6), (by rw [rowS_ne (by omega)]; exact f7), (by rw [rowS_ne (by omega)]; exact f8), (by rw [rowS_ne (by omega)]; exact f9), (by rw [rowS_ne (by omega)]; exact f10), (by rw [rowS_ne (by omega)]; exact f11), (by rw [rowS_ne (by omega)]; exact f12), (by rw [rowS_ne (by omega)]; exact f13), (by rw [rowS_ne (by omega)]; exact f14), (by rw [rowS_ne (by omega)]; exact f15), (by rw [rowS_ne (by omega)]; exact f16), tT_eq, (nx7.mk9 (by decide)), (nx41.mk9 (by decide))⟩
  rw [← eT6]
  rw [← eS7]
  refine tn_putVr (ci := 1) (i := 0) (n := 5) (r := true) (v := (x1 : Int)) tyX1 tyX1_ok nmX1 dX1_init_10 rfl lay_1 (by decide) fl1_9 rfl (tyX1_ok 0 (by decide)) (vl_ref rfl).symm rfl rfl (cx8.r (by decide)) rfl rfl ?_
  obtain ⟨σ11, eS13, cx14, f5, f6, f7, f8, f9, f10, f11, f12, f13, f14, f15, f16⟩ : ∃ (σ11 : MS), σ11 = (sA 5 a ((x1 : Int)) σ5) ∧ CX a 1 K 208 1 T σ T4 σ11 ∧ (σ11.2.1 5 a = (x1 : Int)) ∧ (σ11.2.1 6 a = 0) ∧ (σ11.2.1 7 a = 0) ∧ (σ11.2.1 8 a = 0) ∧ (σ11.2.1 9 a = 0) ∧ (σ11.2.1 10 a = 0) ∧ (σ11.2.1 11 a = -1) ∧ (σ11.2.1 12 a = -1) ∧ (σ11.2.1 13 a = -1) ∧ (σ11.2.1 14 a = -1) ∧ (σ11.2.1 15 a = -1) ∧ (σ11.2.1 16 a = -1) := ⟨_, rfl, (cx8.put (by decide)), ra_eq, (rc_o (by decide) f6), (rc_o (by decide) f7), (rc_o (by decide) f8), (rc_o (by decide) f9), (rc_o (by decide) f10), (rc_o (by decide) f11), (rc_o (by decide) f12), (rc_o (by decide) f13), (rc_o (by decide) f14), (rc_o (by decide) f15), (rc_o (by decide) f16)⟩
  rw [← eS13]
  refine tn_aload_n dX1_init_13 rfl 0 rfl ?_
  refine tn_bipush dX1_init_14 (by decide) ?_
  refine tn_newI (N := 12) (k := 1) dX1_init_16 arC_int (by decide) rfl (by decide) (fun x15 hx16 => ?_)
  have ne17 := cx14.ne hx16
  obtain ⟨T18, σ19, eT20, eS21, cx22, f5, f6, f7, f8, f9, f10, f11, f12, f13, f14, f15, f16, o23, o24, nx7, nx41⟩ : ∃ (T18 : CT) (σ19 : MS), T18 = (tT T4 x15 1 12) ∧ σ19 = (rowS (1000 + x15) (fun _ => 0) (gh 12 σ11)) ∧ CX a 1 K 220 2 T σ T18 σ19 ∧ (σ19.2.1 5 a = (x1 : Int)) ∧ (σ19.2.1 6 a = 0) ∧ (σ19.2.1 7 a = 0) ∧ (σ19.2.1 8 a = 0) ∧ (σ19.2.1 9 a = 0) ∧ (σ19.2.1 10 a = 0) ∧ (σ19.2.1 11 a = -1) ∧ (σ19.2.1 12 a = -1) ∧ (σ19.2.1 13 a = -1) ∧ (σ19.2.1 14 a = -1) ∧ (σ19.2.1 15 a = -1) ∧ (σ19.2.1 16 a = -1) ∧ (T18 x1 = (1, 208)) ∧ (T18 x15 = (1, 12)) ∧ NX 7 a T T18 ∧ NX 41 a T T18 := ⟨_, _, rfl, rfl, (cx14.newI hx16 (by decide)), (by rw [rowS_ne (by omega)]; exact f5), (by rw [rowS_ne (by omega)]; exact f6), (by rw [rowS_ne (by omega)]; exact f7), (by rw [rowS_ne (by omega)]; exact f8), (by rw [rowS_ne (by omega)]; exact f9), (by rw [rowS_ne (by omega)]; exact f10), (by rw [rowS_ne (by omega)]; exact f11), (by rw [rowS_ne (by omega)]; exact f12), (by rw [rowS_ne (by omega)]; exact f13), (by rw [rowS_ne (by omega)]; exact f14), (by rw [rowS_ne (by omega)]; exact f15), (by rw [rowS_ne (by omega)]; exact f16), (tk_keep o9 (by decide) hx16), tT_eq, (nx7.mk9 (by decide)), (nx41.mk9 (by decide))⟩
  rw [← eT20]
  rw [← eS21]
  refine tn_putFr (ci := 1) (i := 6) (n := 11) (r := true) (v := (x15 : Int)) tyX1 tyX1_ok nmX1 dX1_init_18 rfl lay_1 (by decide) fl1_15 rfl rfl rfl (tyX1_ok 6 (by decide)) (vl_ref rfl).symm rfl rfl (cx22.r (by decide)) rfl rfl ?_
  obtain ⟨σ26, eS28, cx29, f5, f6, f7, f8, f9, f10, f11, f12, f13, f14, f15, f16⟩ : ∃ (σ26 : MS), σ26 = (sA 11 a ((x15 : Int)) σ19) ∧ CX a 1 K 220 2 T σ T18 σ26 ∧ (σ26.2.1 5 a = (x1 : Int)) ∧ (σ26.2.1 6 a = 0) ∧ (σ26.2.1 7 a = 0) ∧ (σ26.2.1 8 a = 0) ∧ (σ26.2.1 9 a = 0) ∧ (σ26.2.1 10 a = 0) ∧ (σ26.2.1 11 a = (x15 : Int)) ∧ (σ26.2.1 12 a = -1) ∧ (σ26.2.1 13 a = -1) ∧ (σ26.2.1 14 a = -1) ∧ (σ26.2.1 15 a = -1) ∧ (σ26.2.1 16 a = -1) := ⟨_, rfl, (cx22.put (by decide)), (rc_o (by decide) f5), (rc_o (by decide) f6), (rc_o (by decide) f7), (rc_o (by decide) f8), (rc_o (by decide) f9), (rc_o (by decide) f10), ra_eq, (rc_o (by decide) f12), (rc_o (by decide) f13), (rc_o (by decide) f14), (rc_o (by decide) f15), (rc_o (by decide) f16)⟩
  rw [← eS28]
  refine tn_aload_n dX1_init_21 rfl 0 rfl ?_
  refine tn_bipush dX1_init_22 (by decide) ?_
  refine tn_newI (N := 12) (k := 1) dX1_init_24 arC_int (by decide) rfl (by decide) (fun x30 hx31 => ?_)
  have ne32 := cx29.ne hx31
  obtain ⟨T33, σ34, eT35, eS36, cx37, f5, f6, f7, f8, f9, f10, f11, f12, f13, f14, f15, f16, o38, o39, o40, nx7, nx41⟩ : ∃ (T33 : CT) (σ34 : MS), T33 = (tT T18 x30 1 12) ∧ σ34 = (rowS (1000 + x30) (fun _ => 0) (gh 12 σ26)) ∧ CX a 1 K 232 3 T σ T33 σ34 ∧ (σ34.2.1 5 a = (x1 : Int)) ∧ (σ34.2.1 6 a = 0) ∧ (σ34.2.1 7 a = 0) ∧ (σ34.2.1 8 a = 0) ∧ (σ34.2.1 9 a = 0) ∧ (σ34.2.1 10 a = 0) ∧ (σ34.2.1 11 a = (x15 : Int)) ∧ (σ34.2.1 12 a = -1) ∧ (σ34.2.1 13 a = -1) ∧ (σ34.2.1 14 a = -1) ∧ (σ34.2.1 15 a = -1) ∧ (σ34.2.1 16 a = -1) ∧ (T33 x1 = (1, 208)) ∧ (T33 x15 = (1, 12)) ∧ (T33 x30 = (1, 12)) ∧ NX 7 a T T33 ∧ NX 41 a T T33 := ⟨_, _, rfl, rfl, (cx29.newI hx31 (by decide)), (by rw [rowS_ne (by omega)]; exact f5), (by rw [rowS_ne (by omega)]; exact f6), (by rw [rowS_ne (by omega)]; exact f7), (by rw [rowS_ne (by omega)]; exact f8), (by rw [rowS_ne (by omega)]; exact f9), (by rw [rowS_ne (by omega)]; exact f10), (by rw [rowS_ne (by omega)]; exact f11), (by rw [rowS_ne (by omega)]; exact f12), (by rw [rowS_ne (by omega)]; exact f13), (by rw [rowS_ne (by omega)]; exact f14), (by rw [rowS_ne (by omega)]; exact f15), (by rw [rowS_ne (by omega)]; exact f16), (tk_keep o23 (by decide) hx31), (tk_keep o24 (by decide) hx31), tT_eq, (nx7.mk9 (by decide)), (nx41.mk9 (by decide))⟩
  rw [← eT35]
  rw [← eS36]
  refine tn_putFr (ci := 1) (i := 7) (n := 12) (r := true) (v := (x30 : Int)) tyX1 tyX1_ok nmX1 dX1_init_26 rfl lay_1 (by decide) fl1_18 rfl rfl rfl (tyX1_ok 7 (by decide)) (vl_ref rfl).symm rfl rfl (cx37.r (by decide)) rfl rfl ?_
  obtain ⟨σ42, eS44, cx45, f5, f6, f7, f8, f9, f10, f11, f12, f13, f14, f15, f16⟩ : ∃ (σ42 : MS), σ42 = (sA 12 a ((x30 : Int)) σ34) ∧ CX a 1 K 232 3 T σ T33 σ42 ∧ (σ42.2.1 5 a = (x1 : Int)) ∧ (σ42.2.1 6 a = 0) ∧ (σ42.2.1 7 a = 0) ∧ (σ42.2.1 8 a = 0) ∧ (σ42.2.1 9 a = 0) ∧ (σ42.2.1 10 a = 0) ∧ (σ42.2.1 11 a = (x15 : Int)) ∧ (σ42.2.1 12 a = (x30 : Int)) ∧ (σ42.2.1 13 a = -1) ∧ (σ42.2.1 14 a = -1) ∧ (σ42.2.1 15 a = -1) ∧ (σ42.2.1 16 a = -1) := ⟨_, rfl, (cx37.put (by decide)), (rc_o (by decide) f5), (rc_o (by decide) f6), (rc_o (by decide) f7), (rc_o (by decide) f8), (rc_o (by decide) f9), (rc_o (by decide) f10), (rc_o (by decide) f11), ra_eq, (rc_o (by decide) f13), (rc_o (by decide) f14), (rc_o (by decide) f15), (rc_o (by decide) f16)⟩
  rw [← eS44]
  refine tn_aload_n dX1_init_29 rfl 0 rfl ?_
  refine tn_bipush dX1_init_30 (by decide) ?_
  refine tn_newI (N := 12) (k := 1) dX1_init_32 arC_int (by decide) rfl (by decide) (fun x46 hx47 => ?_)
  have ne48 := cx45.ne hx47
  obtain ⟨T49, σ50, eT51, eS52, cx53, f5, f6, f7, f8, f9, f10, f11, f12, f13, f14, f15, f16, o54, o55, o56, o57, nx7, nx41⟩ : ∃ (T49 : CT) (σ50 : MS), T49 = (tT T33 x46 1 12) ∧ σ50 = (rowS (1000 + x46) (fun _ => 0) (gh 12 σ42)) ∧ CX a 1 K 244 4 T σ T49 σ50 ∧ (σ50.2.1 5 a = (x1 : Int)) ∧ (σ50.2.1 6 a = 0) ∧ (σ50.2.1 7 a = 0) ∧ (σ50.2.1 8 a = 0) ∧ (σ50.2.1 9 a = 0) ∧ (σ50.2.1 10 a = 0) ∧ (σ50.2.1 11 a = (x15 : Int)) ∧ (σ50.2.1 12 a = (x30 : Int)) ∧ (σ50.2.1 13 a = -1) ∧ (σ50.2.1 14 a = -1) ∧ (σ50.2.1 15 a = -1) ∧ (σ50.2.1 16 a = -1) ∧ (T49 x1 = (1, 208)) ∧ (T49 x15 = (1, 12)) ∧ (T49 x30 = (1, 12)) ∧ (T49 x46 = (1, 12)) ∧ NX 7 a T T49 ∧ NX 41 a T T49 := ⟨_, _, rfl, rfl, (cx45.newI hx47 (by decide)), (by rw [rowS_ne (by omega)]; exact f5), (by rw [rowS_ne (by omega)]; exact f6), (by rw [rowS_ne (by omega)]; exact f7), (by rw [rowS_ne (by omega)]; exact f8), (by rw [rowS_ne (by omega)]; exact f9), (by rw [rowS_ne (by omega)]; exact f10), (by rw [rowS_ne (by omega)]; exact f11), (by rw [rowS_ne (by omega)]; exact f12), (by rw [rowS_ne (by omega)]; exact f13), (by rw [rowS_ne (by omega)]; exact f14), (by rw [rowS_ne (by omega)]; exact f15), (by rw [rowS_ne (by omega)]; exact f16), (tk_keep o38 (by decide) hx47), (tk_keep o39 (by decide) hx47), (tk_keep o40 (by decide) hx47), tT_eq, (nx7.mk9 (by decide)), (nx41.mk9 (by decide))⟩
  rw [← eT51]
  rw [← eS52]
  refine tn_putFr (ci := 1) (i := 8) (n := 13) (r := true) (v := (x46 : Int)) tyX1 tyX1_ok nmX1 dX1_init_34 rfl lay_1 (by decide) fl1_21 rfl rfl rfl (tyX1_ok 8 (by decide)) (vl_ref rfl).symm rfl rfl (cx53.r (by decide)) rfl rfl ?_
  obtain ⟨σ59, eS61, cx62, f5, f6, f7, f8, f9, f10, f11, f12, f13, f14, f15, f16⟩ : ∃ (σ59 : MS), σ59 = (sA 13 a ((x46 : Int)) σ50) ∧ CX a 1 K 244 4 T σ T49 σ59 ∧ (σ59.2.1 5 a = (x1 : Int)) ∧ (σ59.2.1 6 a = 0) ∧ (σ59.2.1 7 a = 0) ∧ (σ59.2.1 8 a = 0) ∧ (σ59.2.1 9 a = 0) ∧ (σ59.2.1 10 a = 0) ∧ (σ59.2.1 11 a = (x15 : Int)) ∧ (σ59.2.1 12 a = (x30 : Int)) ∧ (σ59.2.1 13 a = (x46 : Int)) ∧ (σ59.2.1 14 a = -1) ∧ (σ59.2.1 15 a = -1) ∧ (σ59.2.1 16 a = -1) := ⟨_, rfl, (cx53.put (by decide)), (rc_o (by decide) f5), (rc_o (by decide) f6), (rc_o (by decide) f7), (rc_o (by decide) f8), (rc_o (by decide) f9), (rc_o (by decide) f10), (rc_o (by decide) f11), (rc_o (by decide) f12), ra_eq, (rc_o (by decide) f14), (rc_o (by decide) f15), (rc_o (by decide) f16)⟩
  rw [← eS61]
  refine tn_aload_n dX1_init_37 rfl 0 rfl ?_
  refine tn_bipush dX1_init_38 (by decide) ?_
  refine tn_newI (N := 12) (k := 11) dX1_init_40 arC_int (by decide) rfl (by decide) (fun x63 hx64 => ?_)
  have ne65 := cx62.ne hx64
  obtain ⟨T66, σ67, eT68, eS69, cx70, f5, f6, f7, f8, f9, f10, f11, f12, f13, f14, f15, f16, o71, o72, o73, o74, o75, nx7, nx41⟩ : ∃ (T66 : CT) (σ67 : MS), T66 = (tT T49 x63 11 12) ∧ σ67 = (rowS (1000 + x63) (fun _ => 0) (gh 12 σ59)) ∧ CX a 1 K 256 5 T σ T66 σ67 ∧ (σ67.2.1 5 a = (x1 : Int)) ∧ (σ67.2.1 6 a = 0) ∧ (σ67.2.1 7 a = 0) ∧ (σ67.2.1 8 a = 0) ∧ (σ67.2.1 9 a = 0) ∧ (σ67.2.1 10 a = 0) ∧ (σ67.2.1 11 a = (x15 : Int)) ∧ (σ67.2.1 12 a = (x30 : Int)) ∧ (σ67.2.1 13 a = (x46 : Int)) ∧ (σ67.2.1 14 a = -1) ∧ (σ67.2.1 15 a = -1) ∧ (σ67.2.1 16 a = -1) ∧ (T66 x1 = (1, 208)) ∧ (T66 x15 = (1, 12)) ∧ (T66 x30 = (1, 12)) ∧ (T66 x46 = (1, 12)) ∧ (T66 x63 = (11, 12)) ∧ NX 7 a T T66 ∧ NX 41 a T T66 := ⟨_, _, rfl, rfl, (cx62.newI hx64 (by decide)), (by rw [rowS_ne (by omega)]; exact f5), (by rw [rowS_ne (by omega)]; exact f6), (by rw [rowS_ne (by omega)]; exact f7), (by rw [rowS_ne (by omega)]; exact f8), (by rw [rowS_ne (by omega)]; exact f9), (by rw [rowS_ne (by omega)]; exact f10), (by rw [rowS_ne (by omega)]; exact f11), (by rw [rowS_ne (by omega)]; exact f12), (by rw [rowS_ne (by omega)]; exact f13), (by rw [rowS_ne (by omega)]; exact f14), (by rw [rowS_ne (by omega)]; exact f15), (by rw [rowS_ne (by omega)]; exact f16), (tk_keep o54 (by decide) hx64), (tk_keep o55 (by decide) hx64), (tk_keep o56 (by decide) hx64), (tk_keep o57 (by decide) hx64), tT_eq, (nx7.mk9 (by decide)), (nx41.mk9 (by decide))⟩
  rw [← eT68]
  rw [← eS69]
  refine tn_putFr (ci := 1) (i := 9) (n := 14) (r := true) (v := (x63 : Int)) tyX1 tyX1_ok nmX1 dX1_init_42 rfl lay_1 (by decide) fl1_24 rfl rfl rfl (tyX1_ok 9 (by decide)) (vl_ref rfl).symm rfl rfl (cx70.r (by decide)) rfl rfl ?_
  obtain ⟨σ77, eS79, cx80, f5, f6, f7, f8, f9, f10, f11, f12, f13, f14, f15, f16⟩ : ∃ (σ77 : MS), σ77 = (sA 14 a ((x63 : Int)) σ67) ∧ CX a 1 K 256 5 T σ T66 σ77 ∧ (σ77.2.1 5 a = (x1 : Int)) ∧ (σ77.2.1 6 a = 0) ∧ (σ77.2.1 7 a = 0) ∧ (σ77.2.1 8 a = 0) ∧ (σ77.2.1 9 a = 0) ∧ (σ77.2.1 10 a = 0) ∧ (σ77.2.1 11 a = (x15 : Int)) ∧ (σ77.2.1 12 a = (x30 : Int)) ∧ (σ77.2.1 13 a = (x46 : Int)) ∧ (σ77.2.1 14 a = (x63 : Int)) ∧ (σ77.2.1 15 a = -1) ∧ (σ77.2.1 16 a = -1) := ⟨_, rfl, (cx70.put (by decide)), (rc_o (by decide) f5), (rc_o (by decide) f6), (rc_o (by decide) f7), (rc_o (by decide) f8), (rc_o (by decide) f9), (rc_o (by decide) f10), (rc_o (by decide) f11), (rc_o (by decide) f12), (rc_o (by decide) f13), ra_eq, (rc_o (by decide) f15), (rc_o (by decide) f16)⟩
  rw [← eS79]
  refine tn_aload_n dX1_init_45 rfl 0 rfl ?_
  refine tn_sipush dX1_init_46 (by decide) ?_
  refine tn_newI (N := 144) (k := 1) dX1_init_49 arC_int (by decide) rfl (by decide) (fun x81 hx82 => ?_)
  have ne83 := cx80.ne hx82
  obtain ⟨T84, σ85, eT86, eS87, cx88, f5, f6, f7, f8, f9, f10, f11, f12, f13, f14, f15, f16, o89, o90, o91, o92, o93, o94, nx7, nx41⟩ : ∃ (T84 : CT) (σ85 : MS), T84 = (tT T66 x81 1 144) ∧ σ85 = (rowS (1000 + x81) (fun _ => 0) (gh 144 σ77)) ∧ CX a 1 K 400 6 T σ T84 σ85 ∧ (σ85.2.1 5 a = (x1 : Int)) ∧ (σ85.2.1 6 a = 0) ∧ (σ85.2.1 7 a = 0) ∧ (σ85.2.1 8 a = 0) ∧ (σ85.2.1 9 a = 0) ∧ (σ85.2.1 10 a = 0) ∧ (σ85.2.1 11 a = (x15 : Int)) ∧ (σ85.2.1 12 a = (x30 : Int)) ∧ (σ85.2.1 13 a = (x46 : Int)) ∧ (σ85.2.1 14 a = (x63 : Int)) ∧ (σ85.2.1 15 a = -1) ∧ (σ85.2.1 16 a = -1) ∧ (T84 x1 = (1, 208)) ∧ (T84 x15 = (1, 12)) ∧ (T84 x30 = (1, 12)) ∧ (T84 x46 = (1, 12)) ∧ (T84 x63 = (11, 12)) ∧ (T84 x81 = (1, 144)) ∧ NX 7 a T T84 ∧ NX 41 a T T84 := ⟨_, _, rfl, rfl, (cx80.newI hx82 (by decide)), (by rw [rowS_ne (by omega)]; exact f5), (by rw [rowS_ne (by omega)]; exact f6), (by rw [rowS_ne (by omega)]; exact f7), (by rw [rowS_ne (by omega)]; exact f8), (by rw [rowS_ne (by omega)]; exact f9), (by rw [rowS_ne (by omega)]; exact f10), (by rw [rowS_ne (by omega)]; exact f11), (by rw [rowS_ne (by omega)]; exact f12), (by rw [rowS_ne (by omega)]; exact f13), (by rw [rowS_ne (by omega)]; exact f14), (by rw [rowS_ne (by omega)]; exact f15), (by rw [rowS_ne (by omega)]; exact f16), (tk_keep o71 (by decide) hx82), (tk_keep o72 (by decide) hx82), (tk_keep o73 (by decide) hx82), (tk_keep o74 (by decide) hx82), (tk_keep o75 (by decide) hx82), tT_eq, (nx7.mk9 (by decide)), (nx41.mk9 (by decide))⟩
  rw [← eT86]
  rw [← eS87]
  refine tn_putFr (ci := 1) (i := 10) (n := 15) (r := true) (v := (x81 : Int)) tyX1 tyX1_ok nmX1 dX1_init_51 rfl lay_1 (by decide) fl1_27 rfl rfl rfl (tyX1_ok 10 (by decide)) (vl_ref rfl).symm rfl rfl (cx88.r (by decide)) rfl rfl ?_
  obtain ⟨σ96, eS98, cx99, f5, f6, f7, f8, f9, f10, f11, f12, f13, f14, f15, f16⟩ : ∃ (σ96 : MS), σ96 = (sA 15 a ((x81 : Int)) σ85) ∧ CX a 1 K 400 6 T σ T84 σ96 ∧ (σ96.2.1 5 a = (x1 : Int)) ∧ (σ96.2.1 6 a = 0) ∧ (σ96.2.1 7 a = 0) ∧ (σ96.2.1 8 a = 0) ∧ (σ96.2.1 9 a = 0) ∧ (σ96.2.1 10 a = 0) ∧ (σ96.2.1 11 a = (x15 : Int)) ∧ (σ96.2.1 12 a = (x30 : Int)) ∧ (σ96.2.1 13 a = (x46 : Int)) ∧ (σ96.2.1 14 a = (x63 : Int)) ∧ (σ96.2.1 15 a = (x81 : Int)) ∧ (σ96.2.1 16 a = -1) := ⟨_, rfl, (cx88.put (by decide)), (rc_o (by decide) f5), (rc_o (by decide) f6), (rc_o (by decide) f7), (rc_o (by decide) f8), (rc_o (by decide) f9), (rc_o (by decide) f10), (rc_o (by decide) f11), (rc_o (by decide) f12), (rc_o (by decide) f13), (rc_o (by decide) f14), ra_eq, (rc_o (by decide) f16)⟩
  rw [← eS98]
  refine tn_aload_n dX1_init_54 rfl 0 rfl ?_
  refine tn_bipush dX1_init_55 (by decide) ?_
  refine tn_newI (N := 13) (k := 1) dX1_init_57 arC_int (by decide) rfl (by decide) (fun x100 hx101 => ?_)
  have ne102 := cx99.ne hx101
  obtain ⟨T103, σ104, eT105, eS106, cx107, f5, f6, f7, f8, f9, f10, f11, f12, f13, f14, f15, f16, o108, o109, o110, o111, o112, o113, o114, nx7, nx41⟩ : ∃ (T103 : CT) (σ104 : MS), T103 = (tT T84 x100 1 13) ∧ σ104 = (rowS (1000 + x100) (fun _ => 0) (gh 13 σ96)) ∧ CX a 1 K 413 7 T σ T103 σ104 ∧ (σ104.2.1 5 a = (x1 : Int)) ∧ (σ104.2.1 6 a = 0) ∧ (σ104.2.1 7 a = 0) ∧ (σ104.2.1 8 a = 0) ∧ (σ104.2.1 9 a = 0) ∧ (σ104.2.1 10 a = 0) ∧ (σ104.2.1 11 a = (x15 : Int)) ∧ (σ104.2.1 12 a = (x30 : Int)) ∧ (σ104.2.1 13 a = (x46 : Int)) ∧ (σ104.2.1 14 a = (x63 : Int)) ∧ (σ104.2.1 15 a = (x81 : Int)) ∧ (σ104.2.1 16 a = -1) ∧ (T103 x1 = (1, 208)) ∧ (T103 x15 = (1, 12)) ∧ (T103 x30 = (1, 12)) ∧ (T103 x46 = (1, 12)) ∧ (T103 x63 = (11, 12)) ∧ (T103 x81 = (1, 144)) ∧ (T103 x100 = (1, 13)) ∧ NX 7 a T T103 ∧ NX 41 a T T103 := ⟨_, _, rfl, rfl, (cx99.newI hx101 (by decide)), (by rw [rowS_ne (by omega)]; exact f5), (by rw [rowS_ne (by omega)]; exact f6), (by rw [rowS_ne (by omega)]; exact f7), (by rw [rowS_ne (by omega)]; exact f8), (by rw [rowS_ne (by omega)]; exact f9), (by rw [rowS_ne (by omega)]; exact f10), (by rw [rowS_ne (by omega)]; exact f11), (by rw [rowS_ne (by omega)]; exact f12), (by rw [rowS_ne (by omega)]; exact f13), (by rw [rowS_ne (by omega)]; exact f14), (by rw [rowS_ne (by omega)]; exact f15), (by rw [rowS_ne (by omega)]; exact f16), (tk_keep o89 (by decide) hx101), (tk_keep o90 (by decide) hx101), (tk_keep o91 (by decide) hx101), (tk_keep o92 (by decide) hx101), (tk_keep o93 (by decide) hx101), (tk_keep o94 (by decide) hx101), tT_eq, (nx7.mk9 (by decide)), (nx41.mk9 (by decide))⟩
  rw [← eT105]
  rw [← eS106]
  refine tn_putFr (ci := 1) (i := 11) (n := 16) (r := true) (v := (x100 : Int)) tyX1 tyX1_ok nmX1 dX1_init_59 rfl lay_1 (by decide) fl1_30 rfl rfl rfl (tyX1_ok 11 (by decide)) (vl_ref rfl).symm rfl rfl (cx107.r (by decide)) rfl rfl ?_
  obtain ⟨σ116, eS118, cx119, f5, f6, f7, f8, f9, f10, f11, f12, f13, f14, f15, f16⟩ : ∃ (σ116 : MS), σ116 = (sA 16 a ((x100 : Int)) σ104) ∧ CX a 1 K 413 7 T σ T103 σ116 ∧ (σ116.2.1 5 a = (x1 : Int)) ∧ (σ116.2.1 6 a = 0) ∧ (σ116.2.1 7 a = 0) ∧ (σ116.2.1 8 a = 0) ∧ (σ116.2.1 9 a = 0) ∧ (σ116.2.1 10 a = 0) ∧ (σ116.2.1 11 a = (x15 : Int)) ∧ (σ116.2.1 12 a = (x30 : Int)) ∧ (σ116.2.1 13 a = (x46 : Int)) ∧ (σ116.2.1 14 a = (x63 : Int)) ∧ (σ116.2.1 15 a = (x81 : Int)) ∧ (σ116.2.1 16 a = (x100 : Int)) := ⟨_, rfl, (cx107.put (by decide)), (rc_o (by decide) f5), (rc_o (by decide) f6), (rc_o (by decide) f7), (rc_o (by decide) f8), (rc_o (by decide) f9), (rc_o (by decide) f10), (rc_o (by decide) f11), (rc_o (by decide) f12), (rc_o (by decide) f13), (rc_o (by decide) f14), (rc_o (by decide) f15), ra_eq⟩
  rw [← eS118]
  refine tn_tag (ci := 1) (k := 50) (by decide) cx119.1 (by decide) ?_
  have hf9 : ∀ m, m < 111 → cls m = 1 → FO m 50 T103 (σ116.2.1 m a) := fun m hm9 hc9 => by
    have q9 := clsR_1 m hm9 hc9
    have q8 : m = 5 ∨ m = 6 ∨ m = 7 ∨ m = 8 ∨ m = 9 ∨ m = 10 ∨ m = 11 ∨ m = 12 ∨ m = 13 ∨ m = 14 ∨ m = 15 ∨ m = 16 := by omega
    rcases q8 with q8 | q8 | q8 | q8 | q8 | q8 | q8 | q8 | q8 | q8 | q8 | q8
    · subst q8; rw [f5]; exact fo_5 ⟨_, rfl, ⟨by rw [o108]; decide, by rw [o108]; decide⟩, fun _ => tg1 o108, fun h => absurd rfl h⟩
    · subst q8; rw [f6]; exact fo_6 (by decide)
    · subst q8; rw [f7]; exact fo_7 (by decide)
    · subst q8; rw [f8]; exact fo_8 (by decide)
    · subst q8; rw [f9]; exact fo_9 (by decide)
    · subst q8; rw [f10]; exact fo_10 (by decide)
    · subst q8; rw [f11]; exact fo_11 (⟨_, rfl, AR.of o109 (by decide) (by decide)⟩)
    · subst q8; rw [f12]; exact fo_12 (⟨_, rfl, AR.of o110 (by decide) (by decide)⟩)
    · subst q8; rw [f13]; exact fo_13 (⟨_, rfl, AR.of o111 (by decide) (by decide)⟩)
    · subst q8; rw [f14]; exact fo_14 (⟨_, rfl, AR.of o112 (by decide) (by decide)⟩)
    · subst q8; rw [f15]; exact fo_15 (⟨_, rfl, AR.of o113 (by decide) (by decide)⟩)
    · subst q8; rw [f16]; exact fo_16 (⟨_, rfl, AR.of o114 (by decide) (by decide)⟩)
  exact tn_vret rfl dX1_init_62 ⟨rfl, tT_eq, cx119.2.1.tag cx119.1 (by decide) hf9 (fun _ y _ => Or.inl (by rw [f6]; omega)), cx119.2.2.1.tagC (by decide), cx119.2.2.2.1.tag, cx119.2.2.2.2.1, cx119.2.2.2.2.2, nx7.tag, nx41.tag⟩
end
section
theorem cd_X7_init : Cond.code yX7_init cX7_init 2 none ∈ pWW := pw2 (List.mem_of_getElem? (i := 131) rfl) rfl
abbrev m_X7_init : MT := (yX7_init, cX7_init, 2, none)
theorem ok_X7_init : pOk m_X7_init := ⟨⟨cd_X7_init, ini_7⟩, by decide +kernel, ⟨by decide +kernel, by decide +kernel⟩, Nat.le_of_ble_eq_true rfl⟩
theorem np_X7_init : (parseMethodDescriptor yX7_init.desc).map (fun d => d.parameters.length) = some 1 := by decide +kernel
theorem im_X7_init : Cond.instanceMethod yX7_init ∈ pWW := pw2 (List.mem_of_getElem? (i := 130) rfl) rfl
theorem mlo7_3 : Cond.methodLink RX7 3 objectInit ∈ pWW := pw2 (List.mem_of_getElem? (i := 132) rfl) rfl
theorem dX7_init_0 : decode cX7_init 0 = .ok (.aload_n 0, 1) := by decide +kernel
theorem dX7_init_1 : decode cX7_init 1 = .ok (.invokespecial 3, 3) := by decide +kernel
theorem dX7_init_4 : decode cX7_init 4 = .ok (.aload_n 0, 1) := by decide +kernel
theorem dX7_init_5 : decode cX7_init 5 = .ok (.bipush 9, 2) := by decide +kernel
theorem dX7_init_7 : decode cX7_init 7 = .ok (.newarray .int, 2) := by decide +kernel
theorem dX7_init_9 : decode cX7_init 9 = .ok (.putfield 9, 3) := by decide +kernel
theorem dX7_init_12 : decode cX7_init 12 = .ok (.aload_n 0, 1) := by decide +kernel
theorem dX7_init_13 : decode cX7_init 13 = .ok (.bipush 9, 2) := by decide +kernel
theorem dX7_init_15 : decode cX7_init 15 = .ok (.newarray .int, 2) := by decide +kernel
theorem dX7_init_17 : decode cX7_init 17 = .ok (.putfield 15, 3) := by decide +kernel
theorem dX7_init_20 : decode cX7_init 20 = .ok (.aload_n 0, 1) := by decide +kernel
theorem dX7_init_21 : decode cX7_init 21 = .ok (.bipush 9, 2) := by decide +kernel
theorem dX7_init_23 : decode cX7_init 23 = .ok (.newarray .int, 2) := by decide +kernel
theorem dX7_init_25 : decode cX7_init 25 = .ok (.putfield 18, 3) := by decide +kernel
theorem dX7_init_28 : decode cX7_init 28 = .ok (.aload_n 0, 1) := by decide +kernel
theorem dX7_init_29 : decode cX7_init 29 = .ok (.bipush 108, 2) := by decide +kernel
theorem dX7_init_31 : decode cX7_init 31 = .ok (.newarray .int, 2) := by decide +kernel
theorem dX7_init_33 : decode cX7_init 33 = .ok (.putfield 21, 3) := by decide +kernel
theorem dX7_init_36 : decode cX7_init 36 = .ok (.aload_n 0, 1) := by decide +kernel
theorem dX7_init_37 : decode cX7_init 37 = .ok (.sipush 1728, 3) := by decide +kernel
theorem dX7_init_40 : decode cX7_init 40 = .ok (.newarray .int, 2) := by decide +kernel
theorem dX7_init_42 : decode cX7_init 42 = .ok (.putfield 24, 3) := by decide +kernel
theorem dX7_init_45 : decode cX7_init 45 = .ok (.aload_n 0, 1) := by decide +kernel
theorem dX7_init_46 : decode cX7_init 46 = .ok (.sipush 200, 3) := by decide +kernel
theorem dX7_init_49 : decode cX7_init 49 = .ok (.newarray .int, 2) := by decide +kernel
theorem dX7_init_51 : decode cX7_init 51 = .ok (.putfield 27, 3) := by decide +kernel
theorem dX7_init_54 : decode cX7_init 54 = .ok (.aload_n 0, 1) := by decide +kernel
theorem dX7_init_55 : decode cX7_init 55 = .ok (.aload_n 1, 1) := by decide +kernel
theorem dX7_init_56 : decode cX7_init 56 = .ok (.putfield 30, 3) := by decide +kernel
theorem dX7_init_59 : decode cX7_init 59 = .ok (.return_, 1) := by decide +kernel
set_option maxRecDepth 20000 in
theorem kc_X7_init_37 (d : Nat) {T : CT} {σ : MS} {a : Nat} {K : List Nat} {cs : Nat} (hraw : T a = (80 + 7, 0)) (hb : WTn T σ) (hcd : CD K T) (hdf : ∀ j, j < 200 → σ.2.1 j (a : Int) = dfF j) (h_cs : T cs = (5, 6)) : Tn (d + 1) m_X7_init 0 T σ [(0, .ref a), (1, .ref cs)] [] (fun ro T2 σ2 => ro = none ∧ T2 a = (37, 0) ∧ WTn T2 σ2 ∧ CD K T2 ∧ KPx a T σ T2 σ2 ∧ σ2.1 0 = σ.1 0 + (2063 : Nat) ∧ σ2.1 1 = σ.1 1 + (6 : Nat) ∧ NX 7 a T T2 ∧ NX 41 a T T2 ∧ σ2.2.1 57 (a : Int) = 0) := by
  have cx0 : CX a 7 K 0 0 T σ T σ := CX.begin hraw hb hcd
  have nx7 : NX 7 a T T := NX.begin (by decide)
  have nx41 : NX 41 a T T := NX.begin (by decide)
  have f55 : σ.2.1 55 a = -1 := (hdf 55 (by decide)).trans (by decide)
  have f56 : σ.2.1 56 a = 0 := (hdf 56 (by decide)).trans (by decide)
  have f57 : σ.2.1 57 a = 0 := (hdf 57 (by decide)).trans (by decide)
  have f58 : σ.2.1 58 a = 0 := (hdf 58 (by decide)).trans (by decide)
  have f59 : σ.2.1 59 a = -1 := (hdf 59 (by decide)).trans (by decide)
  have f60 : σ.2.1 60 a = -1 := (hdf 60 (by decide)).trans (by decide)
  have f61 : σ.2.1 61 a = -1 := (hdf 61 (by decide)).trans (by decide)
  have f62 : σ.2.1 62 a = -1 := (hdf 62 (by decide)).trans (by decide)
  have f63 : σ.2.1 63 a = -1 := (hdf 63 (by decide)).trans (by decide)
  have f64 : σ.2.1 64 a = -1 := (hdf 64 (by decide)).trans (by decide)
  have f65 : σ.2.1 65 a = 0 := (hdf 65 (by decide)).trans (by decide)
  have f66 : σ.2.1 66 a = 0 := (hdf 66 (by decide)).trans (by decide)
  have f67 : σ.2.1 67 a = 0 := (hdf 67 (by decide)).trans (by decide)
  have f68 : σ.2.1 68 a = 0 := (hdf 68 (by decide)).trans (by decide)
  have f69 : σ.2.1 69 a = -1 := (hdf 69 (by decide)).trans (by decide)
  have f70 : σ.2.1 70 a = 0 := (hdf 70 (by decide)).trans (by decide)
  have f71 : σ.2.1 71 a = 0 := (hdf 71 (by decide)).trans (by decide)
  refine tn_aload_n dX7_init_0 rfl 0 rfl ?_
  refine tn_objInit dX7_init_1 mlo7_3 oiI oiC (by omega) (Nat.le_of_ble_eq_true rfl) ?_
  refine tn_aload_n dX7_init_4 rfl 0 rfl ?_
  refine tn_bipush dX7_init_5 (by decide) ?_
  refine tn_newI (N := 9) (k := 15) dX7_init_7 arC_int (by decide) rfl (by decide) (fun x1 hx2 => ?_)
  have ne3 := cx0.ne hx2
  obtain ⟨T4, σ5, eT6, eS7, cx8, f55, f56, f57, f58, f59, f60, f61, f62, f63, f64, f65, f66, f67, f68, f69, f70, f71, o9, o10, nx7, nx41⟩ : ∃ (T4 : CT) (σ5 : MS), T4 = (tT T x1 15 9) ∧ σ5 = (rowS (1000 + x1) (fun _ => 0) (gh 9 σ)) ∧ CX a 7 K 9 1 T σ T4 σ5 ∧ (σ5.2.1 55 a = -1) ∧ (σ5.2.1 56 a = 0) ∧ (σ5.2.1 57 a = 0) ∧ (σ5.2.1 58 a = 0) ∧ (σ5.2.1 59 a = -1) ∧ (σ5.2.1 60 a = -1) ∧ (σ5.2.1 61 a = -1) ∧ (σ5.2.1 62 a = -1) ∧ (σ5.2.1 63 a = -1) ∧ (σ5.2.1 64 a = -1) ∧ (σ5.2.1 65 a = 0) ∧ (σ5.2.1 66 a = 0) ∧ (σ5.2.1 67 a = 0) ∧ (σ5.2.1 68 a = 0) ∧ (σ5.2.1 69 a = -1) ∧ (σ5.2.1 70 a = 0) ∧ (σ5.2.1 71 a = 0) ∧ (T4 cs = (5, 6)) ∧ (T4 x1 = (15, 9)) ∧ NX 7 a T T4 ∧ NX 41 a T T4 := ⟨_, _, rfl, rfl, (cx0.newI hx2 (by decide)), (by rw [rowS_ne (by omega)]; exact f55), (by rw [rowS_ne (by omega)]; exact f56), (by rw [rowS_ne (by omega)]; exact f57), (by rw [rowS_ne (by omega)]; exact f58), (by rw [rowS_ne (by omega)]; exact f59), (by rw [rowS_ne (by omega)]; exact f60), (by rw [rowS_ne (by omega)]; exact f61), (by rw [rowS_ne (by omega)]; exact f62), (by rw [rowS_ne (by omega)]; exact f63), (by rw [rowS_ne (by omega)]; exact f64), (by rw [rowS_ne (by omega)]; exact f65), (by rw [rowS_ne (by omega)]; exact f66), (by rw [rowS_ne (by omega)]; exact f67), (by rw [rowS_ne (by omega)]; exact f68), (by rw [rowS_ne (by omega)]; exact f69), (by rw [rowS_ne (by omega)]; exact f70), (by rw [rowS_ne (by omega)]; exact f71), (tk_keep h_cs (by decide) hx2), tT_eq, (nx7.mk9 (by decide)), (nx41.mk9 (by decide))⟩
  rw [← eT6]
  rw [← eS7]
  refine tn_putFr (ci := 7) (i := 4) (n := 59) (r := true) (v := (x1 : Int)) tyX7 tyX7_ok nmX7 dX7_init_9 rfl lay_7 (by decide) fl7_9 rfl rfl rfl (tyX7_ok 4 (by decide)) (vl_ref rfl).symm rfl rfl (cx8.r (by decide)) rfl rfl ?_
  obtain ⟨σ12, eS14, cx15, f55, f56, f57, f58, f59, f60, f61, f62, f63, f64, f65, f66, f67, f68, f69, f70, f71⟩ : ∃ (σ12 : MS), σ12 = (sA 59 a ((x1 : Int)) σ5) ∧ CX a 7 K 9 1 T σ T4 σ12 ∧ (σ12.2.1 55 a = -1) ∧ (σ12.2.1 56 a = 0) ∧ (σ12.2.1 57 a = 0) ∧ (σ12.2.1 58 a = 0) ∧ (σ12.2.1 59 a = (x1 : Int)) ∧ (σ12.2.1 60 a = -1) ∧ (σ12.2.1 61 a = -1) ∧ (σ12.2.1 62 a = -1) ∧ (σ12.2.1 63 a = -1) ∧ (σ12.2.1 64 a = -1) ∧ (σ12.2.1 65 a = 0) ∧ (σ12.2.1 66 a = 0) ∧ (σ12.2.1 67 a = 0) ∧ (σ12.2.1 68 a = 0) ∧ (σ12.2.1 69 a = -1) ∧ (σ12.2.1 70 a = 0) ∧ (σ12.2.1 71 a = 0) := ⟨_, rfl, (cx8.put (by decide)), (rc_o (by decide) f55), (rc_o (by decide) f56), (rc_o (by decide) f57), (rc_o (by decide) f58), ra_eq, (rc_o (by decide) f60), (rc_o (by decide) f61), (rc_o (by decide) f62), (rc_o (by decide) f63), (rc_o (by decide) f64), (rc_o (by decide) f65), (rc_o (by decide) f66), (rc_o (by decide) f67), (rc_o (by decide) f68), (rc_o (by decide) f69), (rc_o (by decide) f70), (rc_o (by decide) f71)⟩
  rw [← eS14]
  refine tn_aload_n dX7_init_12 rfl 0 rfl ?_
  refine tn_bipush dX7_init_13 (by decide) ?_
  refine tn_newI (N := 9) (k := 1) dX7_init_15 arC_int (by decide) rfl (by decide) (fun x16 hx17 => ?_)
  have ne18 := cx15.ne hx17
  obtain ⟨T19, σ20, eT21, eS22, cx23, f55, f56, f57, f58, f59, f60, f61, f62, f63, f64, f65, f66, f67, f68, f69, f70, f71, o24, o25, o26, nx7, nx41⟩ : ∃ (T19 : CT) (σ20 : MS), T19 = (tT T4 x16 1 9) ∧ σ20 = (rowS (1000 + x16) (fun _ => 0) (gh 9 σ12)) ∧ CX a 7 K 18 2 T σ T19 σ20 ∧ (σ20.2.1 55 a = -1) ∧ (σ20.2.1 56 a = 0) ∧ (σ20.2.1 57 a = 0) ∧ (σ20.2.1 58 a = 0) ∧ (σ20.2.1 59 a = (x1 : Int)) ∧ (σ20.2.1 60 a = -1) ∧ (σ20.2.1 61 a = -1) ∧ (σ20.2.1 62 a = -1) ∧ (σ20.2.1 63 a = -1) ∧ (σ20.2.1 64 a = -1) ∧ (σ20.2.1 65 a = 0) ∧ (σ20.2.1 66 a = 0) ∧ (σ20.2.1 67 a = 0) ∧ (σ20.2.1 68 a = 0) ∧ (σ20.2.1 69 a = -1) ∧ (σ20.2.1 70 a = 0) ∧ (σ20.2.1 71 a = 0) ∧ (T19 cs = (5, 6)) ∧ (T19 x1 = (15, 9)) ∧ (T19 x16 = (1, 9)) ∧ NX 7 a T T19 ∧ NX 41 a T T19 := ⟨_, _, rfl, rfl, (cx15.newI hx17 (by decide)), (by rw [rowS_ne (by omega)]; exact f55), (by rw [rowS_ne (by omega)]; exact f56), (by rw [rowS_ne (by omega)]; exact f57), (by rw [rowS_ne (by omega)]; exact f58), (by rw [rowS_ne (by omega)]; exact f59), (by rw [rowS_ne (by omega)]; exact f60), (by rw [rowS_ne (by omega)]; exact f61), (by rw [rowS_ne (by omega)]; exact f62), (by rw [rowS_ne (by omega)]; exact f63), (by rw [rowS_ne (by omega)]; exact f64), (by rw [rowS_ne (by omega)]; exact f65), (by rw [rowS_ne (by omega)]; exact f66), (by rw [rowS_ne (by omega)]; exact f67), (by rw [rowS_ne (by omega)]; exact f68), (by rw [rowS_ne (by omega)]; exact f69), (by rw [rowS_ne (by omega)]; exact f70), (by rw [rowS_ne (by omega)]; exact f71), (tk_keep o9 (by decide) hx17), (tk_keep o10 (by decide) hx17), tT_eq, (nx7.mk9 (by decide)), (nx41.mk9 (by decide))⟩
  rw [← eT21]
  rw [← eS22]
  refine tn_putFr (ci := 7) (i := 5) (n := 60) (r := true) (v := (x16 : Int)) tyX7 tyX7_ok nmX7 dX7_init_17 rfl lay_7 (by decide) fl7_15 rfl rfl rfl (tyX7_ok 5 (by decide)) (vl_ref rfl).symm rfl rfl (cx23.r (by decide)) rfl rfl ?_
  obtain ⟨σ28, eS30, cx31, f55, f56, f57, f58, f59, f60, f61, f62, f63, f64, f65, f66, f67, f68, f69, f70, f71⟩ : ∃ (σ28 : MS), σ28 = (sA 60 a ((x16 : Int)) σ20) ∧ CX a 7 K 18 2 T σ T19 σ28 ∧ (σ28.2.1 55 a = -1) ∧ (σ28.2.1 56 a = 0) ∧ (σ28.2.1 57 a = 0) ∧ (σ28.2.1 58 a = 0) ∧ (σ28.2.1 59 a = (x1 : Int)) ∧ (σ28.2.1 60 a = (x16 : Int)) ∧ (σ28.2.1 61 a = -1) ∧ (σ28.2.1 62 a = -1) ∧ (σ28.2.1 63 a = -1) ∧ (σ28.2.1 64 a = -1) ∧ (σ28.2.1 65 a = 0) ∧ (σ28.2.1 66 a = 0) ∧ (σ28.2.1 67 a = 0) ∧ (σ28.2.1 68 a = 0) ∧ (σ28.2.1 69 a = -1) ∧ (σ28.2.1 70 a = 0) ∧ (σ28.2.1 71 a = 0) := ⟨_, rfl, (cx23.put (by decide)), (rc_o (by decide) f55), (rc_o (by decide) f56), (rc_o (by decide) f57), (rc_o (by decide) f58), (rc_o (by decide) f59), ra_eq, (rc_o (by decide) f61), (rc_o (by decide) f62), (rc_o (by decide) f63), (rc_o (by decide) f64), (rc_o (by decide) f65), (rc_o (by decide) f66), (rc_o (by decide) f67), (rc_o (by decide) f68), (rc_o (by decide) f69), (rc_o (by decide) f70), (rc_o (by decide) f71)⟩
  rw [← eS30]
  refine tn_aload_n dX7_init_20 rfl 0 rfl ?_
  refine tn_bipush dX7_init_21 (by decide) ?_
  refine tn_newI (N := 9) (k := 1) dX7_init_23 arC_int (by decide) rfl (by decide) (fun x32 hx33 => ?_)
  have ne34 := cx31.ne hx33
  obtain ⟨T35, σ36, eT37, eS38, cx39, f55, f56, f57, f58, f59, f60, f61, f62, f63, f64, f65, f66, f67, f68, f69, f70, f71, o40, o41, o42, o43, nx7, nx41⟩ : ∃ (T35 : CT) (σ36 : MS), T35 = (tT T19 x32 1 9) ∧ σ36 = (rowS (1000 + x32) (fun _ => 0) (gh 9 σ28)) ∧ CX a 7 K 27 3 T σ T35 σ36 ∧ (σ36.2.1 55 a = -1) ∧ (σ36.2.1 56 a = 0) ∧ (σ36.2.1 57 a = 0) ∧ (σ36.2.1 58 a = 0) ∧ (σ36.2.1 59 a = (x1 : Int)) ∧ (σ36.2.1 60 a = (x16 : Int)) ∧ (σ36.2.1 61 a = -1) ∧ (σ36.2.1 62 a = -1) ∧ (σ36.2.1 63 a = -1) ∧ (σ36.2.1 64 a = -1) ∧ (σ36.2.1 65 a = 0) ∧ (σ36.2.1 66 a = 0) ∧ (σ36.2.1 67 a = 0) ∧ (σ36.2.1 68 a = 0) ∧ (σ36.2.1 69 a = -1) ∧ (σ36.2.1 70 a = 0) ∧ (σ36.2.1 71 a = 0) ∧ (T35 cs = (5, 6)) ∧ (T35 x1 = (15, 9)) ∧ (T35 x16 = (1, 9)) ∧ (T35 x32 = (1, 9)) ∧ NX 7 a T T35 ∧ NX 41 a T T35 := ⟨_, _, rfl, rfl, (cx31.newI hx33 (by decide)), (by rw [rowS_ne (by omega)]; exact f55), (by rw [rowS_ne (by omega)]; exact f56), (by rw [rowS_ne (by omega)]; exact f57), (by rw [rowS_ne (by omega)]; exact f58), (by rw [rowS_ne (by omega)]; exact f59), (by rw [rowS_ne (by omega)]; exact f60), (by rw [rowS_ne (by omega)]; exact f61), (by rw [rowS_ne (by omega)]; exact f62), (by rw [rowS_ne (by omega)]; exact f63), (by rw [rowS_ne (by omega)]; exact f64), (by rw [rowS_ne (by omega)]; exact f65), (by rw [rowS_ne (by omega)]; exact f66), (by rw [rowS_ne (by omega)]; exact f67), (by rw [rowS_ne (by omega)]; exact f68), (by rw [rowS_ne (by omega)]; exact f69), (by rw [rowS_ne (by omega)]; exact f70), (by rw [rowS_ne (by omega)]; exact f71), (tk_keep o24 (by decide) hx33), (tk_keep o25 (by decide) hx33), (tk_keep o26 (by decide) hx33), tT_eq, (nx7.mk9 (by decide)), (nx41.mk9 (by decide))⟩
  rw [← eT37]
  rw [← eS38]
  refine tn_putFr (ci := 7) (i := 6) (n := 61) (r := true) (v := (x32 : Int)) tyX7 tyX7_ok nmX7 dX7_init_25 rfl lay_7 (by decide) fl7_18 rfl rfl rfl (tyX7_ok 6 (by decide)) (vl_ref rfl).symm rfl rfl (cx39.r (by decide)) rfl rfl ?_
  obtain ⟨σ45, eS47, cx48, f55, f56, f57, f58, f59, f60, f61, f62, f63, f64, f65, f66, f67, f68, f69, f70, f71⟩ : ∃ (σ45 : MS), σ45 = (sA 61 a ((x32 : Int)) σ36) ∧ CX a 7 K 27 3 T σ T35 σ45 ∧ (σ45.2.1 55 a = -1) ∧ (σ45.2.1 56 a = 0) ∧ (σ45.2.1 57 a = 0) ∧ (σ45.2.1 58 a = 0) ∧ (σ45.2.1 59 a = (x1 : Int)) ∧ (σ45.2.1 60 a = (x16 : Int)) ∧ (σ45.2.1 61 a = (x32 : Int)) ∧ (σ45.2.1 62 a = -1) ∧ (σ45.2.1 63 a = -1) ∧ (σ45.2.1 64 a = -1) ∧ (σ45.2.1 65 a = 0) ∧ (σ45.2.1 66 a = 0) ∧ (σ45.2.1 67 a = 0) ∧ (σ45.2.1 68 a = 0) ∧ (σ45.2.1 69 a = -1) ∧ (σ45.2.1 70 a = 0) ∧ (σ45.2.1 71 a = 0) := ⟨_, rfl, (cx39.put (by decide)), (rc_o (by decide) f55), (rc_o (by decide) f56), (rc_o (by decide) f57), (rc_o (by decide) f58), (rc_o (by decide) f59), (rc_o (by decide) f60), ra_eq, (rc_o (by decide) f62), (rc_o (by decide) f63), (rc_o (by decide) f64), (rc_o (by decide) f65), (rc_o (by decide) f66), (rc_o (by decide) f67), (rc_o (by decide) f68), (rc_o (by decide) f69), (rc_o (by decide) f70), (rc_o (by decide) f71)⟩
  rw [← eS47]
  refine tn_aload_n dX7_init_28 rfl 0 rfl ?_
  refine tn_bipush dX7_init_29 (by decide) ?_
  refine tn_newI (N := 108) (k := 1) dX7_init_31 arC_int (by decide) rfl (by decide) (fun x49 hx50 => ?_)
  have ne51 := cx48.ne hx50
  obtain ⟨T52, σ53, eT54, eS55, cx56, f55, f56, f57, f58, f59, f60, f61, f62, f63, f64, f65, f66, f67, f68, f69, f70, f71, o57, o58, o59, o60, o61, nx7, nx41⟩ : ∃ (T52 : CT) (σ53 : MS), T52 = (tT T35 x49 1 108) ∧ σ53 = (rowS (1000 + x49) (fun _ => 0) (gh 108 σ45)) ∧ CX a 7 K 135 4 T σ T52 σ53 ∧ (σ53.2.1 55 a = -1) ∧ (σ53.2.1 56 a = 0) ∧ (σ53.2.1 57 a = 0) ∧ (σ53.2.1 58 a = 0) ∧ (σ53.2.1 59 a = (x1 : Int)) ∧ (σ53.2.1 60 a = (x16 : Int)) ∧ (σ53.2.1 61 a = (x32 : Int)) ∧ (σ53.2.1 62 a = -1) ∧ (σ53.2.1 63 a = -1) ∧ (σ53.2.1 64 a = -1) ∧ (σ53.2.1 65 a = 0) ∧ (σ53.2.1 66 a = 0) ∧ (σ53.2.1 67 a = 0) ∧ (σ53.2.1 68 a = 0) ∧ (σ53.2.1 69 a = -1) ∧ (σ53.2.1 70 a = 0) ∧ (σ53.2.1 71 a = 0) ∧ (T52 cs = (5, 6)) ∧ (T52 x1 = (15, 9)) ∧ (T52 x16 = (1, 9)) ∧ (T52 x32 = (1, 9)) ∧ (T52 x49 = (1, 108)) ∧ NX 7 a T T52 ∧ NX 41 a T T52 := ⟨_, _, rfl, rfl, (cx48.newI hx50 (by decide)), (by rw [rowS_ne (by omega)]; exact f55), (by rw [rowS_ne (by omega)]; exact f56), (by rw [rowS_ne (by omega)]; exact f57), (by rw [rowS_ne (by omega)]; exact f58), (by rw [rowS_ne (by omega)]; exact f59), (by rw [rowS_ne (by omega)]; exact f60), (by rw [rowS_ne (by omega)]; exact f61), (by rw [rowS_ne (by omega)]; exact f62), (by rw [rowS_ne (by omega)]; exact f63), (by rw [rowS_ne (by omega)]; exact f64), (by rw [rowS_ne (by omega)]; exact f65), (by rw [rowS_ne (by omega)]; exact f66), (by rw [rowS_ne (by omega)]; exact f67), (by rw [rowS_ne (by omega)]; exact f68), (by rw [rowS_ne (by omega)]; exact f69), (by rw [rowS_ne (by omega)]; exact f70), (by rw [rowS_ne (by omega)]; exact f71), (tk_keep o40 (by decide) hx50), (tk_keep o41 (by decide) hx50), (tk_keep o42 (by decide) hx50), (tk_keep o43 (by decide) hx50), tT_eq, (nx7.mk9 (by decide)), (nx41.mk9 (by decide))⟩
  rw [← eT54]
  rw [← eS55]
  refine tn_putFr (ci := 7) (i := 7) (n := 62) (r := true) (v := (x49 : Int)) tyX7 tyX7_ok nmX7 dX7_init_33 rfl lay_7 (by decide) fl7_21 rfl rfl rfl (tyX7_ok 7 (by decide)) (vl_ref rfl).symm rfl rfl (cx56.r (by decide)) rfl rfl ?_
  obtain ⟨σ63, eS65, cx66, f55, f56, f57, f58, f59, f60, f61, f62, f63, f64, f65, f66, f67, f68, f69, f70, f71⟩ : ∃ (σ63 : MS), σ63 = (sA 62 a ((x49 : Int)) σ53) ∧ CX a 7 K 135 4 T σ T52 σ63 ∧ (σ63.2.1 55 a = -1) ∧ (σ63.2.1 56 a = 0) ∧ (σ63.2.1 57 a = 0) ∧ (σ63.2.1 58 a = 0) ∧ (σ63.2.1 59 a = (x1 : Int)) ∧ (σ63.2.1 60 a = (x16 : Int)) ∧ (σ63.2.1 61 a = (x32 : Int)) ∧ (σ63.2.1 62 a = (x49 : Int)) ∧ (σ63.2.1 63 a = -1) ∧ (σ63.2.1 64 a = -1) ∧ (σ63.2.1 65 a = 0) ∧ (σ63.2.1 66 a = 0) ∧ (σ63.2.1 67 a = 0) ∧ (σ63.2.1 68 a = 0) ∧ (σ63.2.1 69 a = -1) ∧ (σ63.2.1 70 a = 0) ∧ (σ63.2.1 71 a = 0) := ⟨_, rfl, (cx56.put (by decide)), (rc_o (by decide) f55), (rc_o (by decide) f56), (rc_o (by decide) f57), (rc_o (by decide) f58), (rc_o (by decide) f59), (rc_o (by decide) f60), (rc_o (by decide) f61), ra_eq, (rc_o (by decide) f63), (rc_o (by decide) f64), (rc_o (by decide) f65), (rc_o (by decide) f66), (rc_o (by decide) f67), (rc_o (by decide) f68), (rc_o (by decide) f69), (rc_o (by decide) f70), (rc_o (by decide) f71)⟩
  rw [← eS65]
  refine tn_aload_n dX7_init_36 rfl 0 rfl ?_
  refine tn_sipush dX7_init_37 (by decide) ?_
  refine tn_newI (N := 1728) (k := 1) dX7_init_40 arC_int (by decide) rfl (by decide) (fun x67 hx68 => ?_)
  have ne69 := cx66.ne hx68
  obtain ⟨T70, σ71, eT72, eS73, cx74, f55, f56, f57, f58, f59, f60, f61, f62, f63, f64, f65, f66, f67, f68, f69, f70, f71, o75, o76, o77, o78, o79, o80, nx7, nx41⟩ : ∃ (T70 : CT) (σ71 : MS), T70 = (tT T52 x67 1 1728) ∧ σ71 = (rowS (1000 + x67) (fun _ => 0) (gh 1728 σ63)) ∧ CX a 7 K 1863 5 T σ T70 σ71 ∧ (σ71.2.1 55 a = -1) ∧ (σ71.2.1 56 a = 0) ∧ (σ71.2.1 57 a = 0) ∧ (σ71.2.1 58 a = 0) ∧ (σ71.2.1 59 a = (x1 : Int)) ∧ (σ71.2.1 60 a = (x16 : Int)) ∧ (σ71.2.1 61 a = (x32 : Int)) ∧ (σ71.2.1 62 a = (x49 : Int)) ∧ (σ71.2.1 63 a = -1) ∧ (σ71.2.1 64 a = -1) ∧ (σ71.2.1 65 a = 0) ∧ (σ71.2.1 66 a = 0) ∧ (σ71.2.1 67 a = 0) ∧ (σ71.2.1 68 a = 0) ∧ (σ71.2.1 69 a = -1) ∧ (σ71.2.1 70 a = 0) ∧ (σ71.2.1 71 a = 0) ∧ (T70 cs = (5, 6)) ∧ (T70 x1 = (15, 9)) ∧ (T70 x16 = (1, 9)) ∧ (T70 x32 = (1, 9)) ∧ (T70 x49 = (1, 108)) ∧ (T70 x67 = (1, 1728)) ∧ NX 7 a T T70 ∧ NX 41 a T T70 := ⟨_, _, rfl, rfl, (cx66.newI hx68 (by decide)), (by rw [rowS_ne (by omega)]; exact f55), (by rw [rowS_ne (by omega)]; exact f56), (by rw [rowS_ne (by omega)]; exact f57), (by rw [rowS_ne (by omega)]; exact f58), (by rw [rowS_ne (by omega)]; exact f59), (by rw [rowS_ne (by omega)]; exact f60), (by rw [rowS_ne (by omega)]; exact f61), (by rw [rowS_ne (by omega)]; exact f62), (by rw [rowS_ne (by omega)]; exact f63), (by rw [rowS_ne (by omega)]; exact f64), (by rw [rowS_ne (by omega)]; exact f65), (by rw [rowS_ne (by omega)]; exact f66), (by rw [rowS_ne (by omega)]; exact f67), (by rw [rowS_ne (by omega)]; exact f68), (by rw [rowS_ne (by omega)]; exact f69), (by rw [rowS_ne (by omega)]; exact f70), (by rw [rowS_ne (by omega)]; exact f71), (tk_keep o57 (by decide) hx68), (tk_keep o58 (by decide) hx68), (tk_keep o59 (by decide) hx68), (tk_keep o60 (by decide) hx68), (tk_keep o61 (by decide) hx68), tT_eq, (nx7.mk9 (by decide)), (nx41.mk9 (by decide))⟩
  rw [← eT72]
  rw [← eS73]
  refine tn_putFr (ci := 7) (i := 8) (n := 63) (r := true) (v := (x67 : Int)) tyX7 tyX7_ok nmX7 dX7_init_42 rfl lay_7 (by decide) fl7_24 rfl rfl rfl (tyX7_ok 8 (by decide)) (vl_ref rfl).symm rfl rfl (cx74.r (by decide)) rfl rfl ?_
  obtain ⟨σ82, eS84, cx85, f55, f56, f57, f58, f59, f60, f61, f62, f63, f64, f65, f66, f67, f68, f69, f70, f71⟩ : ∃ (σ82 : MS), σ82 = (sA 63 a ((x67 : Int)) σ71) ∧ CX a 7 K 1863 5 T σ T70 σ82 ∧ (σ82.2.1 55 a = -1) ∧ (σ82.2.1 56 a = 0) ∧ (σ82.2.1 57 a = 0) ∧ (σ82.2.1 58 a = 0) ∧ (σ82.2.1 59 a = (x1 : Int)) ∧ (σ82.2.1 60 a = (x16 : Int)) ∧ (σ82.2.1 61 a = (x32 : Int)) ∧ (σ82.2.1 62 a = (x49 : Int)) ∧ (σ82.2.1 63 a = (x67 : Int)) ∧ (σ82.2.1 64 a = -1) ∧ (σ82.2.1 65 a = 0) ∧ (σ82.2.1 66 a = 0) ∧ (σ82.2.1 67 a = 0) ∧ (σ82.2.1 68 a = 0) ∧ (σ82.2.1 69 a = -1) ∧ (σ82.2.1 70 a = 0) ∧ (σ82.2.1 71 a = 0) := ⟨_, rfl, (cx74.put (by decide)), (rc_o (by decide) f55), (rc_o (by decide) f56), (rc_o (by decide) f57), (rc_o (by decide) f58), (rc_o (by decide) f59), (rc_o (by decide) f60), (rc_o (by decide) f61), (rc_o (by decide) f62), ra_eq, (rc_o (by decide) f64), (rc_o (by decide) f65), (rc_o (by decide) f66), (rc_o (by decide) f67), (rc_o (by decide) f68), (rc_o (by decide) f69), (rc_o (by decide) f70), (rc_o (by decide) f71)⟩
  rw [← eS84]
  refine tn_aload_n dX7_init_45 rfl 0 rfl ?_
  refine tn_sipush dX7_init_46 (by decide) ?_
  refine tn_newI (N := 200) (k := 1) dX7_init_49 arC_int (by decide) rfl (by decide) (fun x86 hx87 => ?_)
  have ne88 := cx85.ne hx87
  obtain ⟨T89, σ90, eT91, eS92, cx93, f55, f56, f57, f58, f59, f60, f61, f62, f63, f64, f65, f66, f67, f68, f69, f70, f71, o94, o95, o96, o97, o98, o99, o100, nx7, nx41⟩ : ∃ (T89 : CT) (σ90 : MS), T89 = (tT T70 x86 1 200) ∧ σ90 = (rowS (1000 + x86) (fun _ => 0) (gh 200 σ82)) ∧ CX a 7 K 2063 6 T σ T89 σ90 ∧ (σ90.2.1 55 a = -1) ∧ (σ90.2.1 56 a = 0) ∧ (σ90.2.1 57 a = 0) ∧ (σ90.2.1 58 a = 0) ∧ (σ90.2.1 59 a = (x1 : Int)) ∧ (σ90.2.1 60 a = (x16 : Int)) ∧ (σ90.2.1 61 a = (x32 : Int)) ∧ (σ90.2.1 62 a = (x49 : Int)) ∧ (σ90.2.1 63 a = (x67 : Int)) ∧ (σ90.2.1 64 a = -1) ∧ (σ90.2.1 65 a = 0) ∧ (σ90.2.1 66 a = 0) ∧ (σ90.2.1 67 a = 0) ∧ (σ90.2.1 68 a = 0) ∧ (σ90.2.1 69 a = -1) ∧ (σ90.2.1 70 a = 0) ∧ (σ90.2.1 71 a = 0) ∧ (T89 cs = (5, 6)) ∧ (T89 x1 = (15, 9)) ∧ (T89 x16 = (1, 9)) ∧ (T89 x32 = (1, 9)) ∧ (T89 x49 = (1, 108)) ∧ (T89 x67 = (1, 1728)) ∧ (T89 x86 = (1, 200)) ∧ NX 7 a T T89 ∧ NX 41 a T T89 := ⟨_, _, rfl, rfl, (cx85.newI hx87 (by decide)), (by rw [rowS_ne (by omega)]; exact f55), (by rw [rowS_ne (by omega)]; exact f56), (by rw [rowS_ne (by omega)]; exact f57), (by rw [rowS_ne (by omega)]; exact f58), (by rw [rowS_ne (by omega)]; exact f59), (by rw [rowS_ne (by omega)]; exact f60), (by rw [rowS_ne (by omega)]; exact f61), (by rw [rowS_ne (by omega)]; exact f62), (by rw [rowS_ne (by omega)]; exact f63), (by rw [rowS_ne (by omega)]; exact f64), (by rw [rowS_ne (by omega)]; exact f65), (by rw [rowS_ne (by omega)]; exact f66), (by rw [rowS_ne (by omega)]; exact f67), (by rw [rowS_ne (by omega)]; exact f68), (by rw [rowS_ne (by omega)]; exact f69), (by rw [rowS_ne (by omega)]; exact f70), (by rw [rowS_ne (by omega)]; exact f71), (tk_keep o75 (by decide) hx87), (tk_keep o76 (by decide) hx87), (tk_keep o77 (by decide) hx87), (tk_keep o78 (by decide) hx87), (tk_keep o79 (by decide) hx87), (tk_keep o80 (by decide) hx87), tT_eq, (nx7.mk9 (by decide)), (nx41.mk9 (by decide))⟩
  rw [← eT91]
  rw [← eS92]
  refine tn_putFr (ci := 7) (i := 9) (n := 64) (r := true) (v := (x86 : Int)) tyX7 tyX7_ok nmX7 dX7_init_51 rfl lay_7 (by decide) fl7_27 rfl rfl rfl (tyX7_ok 9 (by decide)) (vl_ref rfl).symm rfl rfl (cx93.r (by decide)) rfl rfl ?_
  obtain ⟨σ102, eS104, cx105, f55, f56, f57, f58, f59, f60, f61, f62, f63, f64, f65, f66, f67, f68, f69, f70, f71⟩ : ∃ (σ102 : MS), σ102 = (sA 64 a ((x86 : Int)) σ90) ∧ CX a 7 K 2063 6 T σ T89 σ102 ∧ (σ102.2.1 55 a = -1) ∧ (σ102.2.1 56 a = 0) ∧ (σ102.2.1 57 a = 0) ∧ (σ102.2.1 58 a = 0) ∧ (σ102.2.1 59 a = (x1 : Int)) ∧ (σ102.2.1 60 a = (x16 : Int)) ∧ (σ102.2.1 61 a = (x32 : Int)) ∧ (σ102.2.1 62 a = (x49 : Int)) ∧ (σ102.2.1 63 a = (x67 : Int)) ∧ (σ102.2.1 64 a = (x86 : Int)) ∧ (σ102.2.1 65 a = 0) ∧ (σ102.2.1 66 a = 0) ∧ (σ102.2.1 67 a = 0) ∧ (σ102.2.1 68 a = 0) ∧ (σ102.2.1 69 a = -1) ∧ (σ102.2.1 70 a = 0) ∧ (σ102.2.1 71 a = 0) := ⟨_, rfl, (cx93.put (by decide)), (rc_o (by decide) f55), (rc_o (by decide) f56), (rc_o (by decide) f57), (rc_o (by decide) f58), (rc_o (by decide) f59), (rc_o (by decide) f60), (rc_o (by decide) f61), (rc_o (by decide) f62), (rc_o (by decide) f63), ra_eq, (rc_o (by decide) f65), (rc_o (by decide) f66), (rc_o (by decide) f67), (rc_o (by decide) f68), (rc_o (by decide) f69), (rc_o (by decide) f70), (rc_o (by decide) f71)⟩
  rw [← eS104]
  refine tn_aload_n dX7_init_54 rfl 0 rfl ?_
  refine tn_aload_n dX7_init_55 rfl 1 rfl ?_
  refine tn_putFr (ci := 7) (i := 0) (n := 55) (r := true) (v := (cs : Int)) tyX7 tyX7_ok nmX7 dX7_init_56 rfl lay_7 (by decide) fl7_30 rfl rfl rfl (tyX7_ok 0 (by decide)) (vl_ref rfl).symm rfl rfl (cx105.r (by decide)) rfl rfl ?_
  obtain ⟨σ107, eS109, cx110, f55, f56, f57, f58, f59, f60, f61, f62, f63, f64, f65, f66, f67, f68, f69, f70, f71⟩ : ∃ (σ107 : MS), σ107 = (sA 55 a ((cs : Int)) σ102) ∧ CX a 7 K 2063 6 T σ T89 σ107 ∧ (σ107.2.1 55 a = (cs : Int)) ∧ (σ107.2.1 56 a = 0) ∧ (σ107.2.1 57 a = 0) ∧ (σ107.2.1 58 a = 0) ∧ (σ107.2.1 59 a = (x1 : Int)) ∧ (σ107.2.1 60 a = (x16 : Int)) ∧ (σ107.2.1 61 a = (x32 : Int)) ∧ (σ107.2.1 62 a = (x49 : Int)) ∧ (σ107.2.1 63 a = (x67 : Int)) ∧ (σ107.2.1 64 a = (x86 : Int)) ∧ (σ107.2.1 65 a = 0) ∧ (σ107.2.1 66 a = 0) ∧ (σ107.2.1 67 a = 0) ∧ (σ107.2.1 68 a = 0) ∧ (σ107.2.1 69 a = -1) ∧ (σ107.2.1 70 a = 0) ∧ (σ107.2.1 71 a = 0) := ⟨_, rfl, (cx105.put (by decide)), ra_eq, (rc_o (by decide) f56), (rc_o (by decide) f57), (rc_o (by decide) f58), (rc_o (by decide) f59), (rc_o (by decide) f60), (rc_o (by decide) f61), (rc_o (by decide) f62), (rc_o (by decide) f63), (rc_o (by decide) f64), (rc_o (by decide) f65), (rc_o (by decide) f66), (rc_o (by decide) f67), (rc_o (by decide) f68), (rc_o (by decide) f69), (rc_o (by decide) f70), (rc_o (by decide) f71)⟩
  rw [← eS109]
  refine tn_tag (ci := 7) (k := 37) (by decide) cx110.1 (by decide) ?_
  have hf9 : ∀ m, m < 111 → cls m = 7 → FO m 37 T89 (σ107.2.1 m a) := fun m hm9 hc9 => by
    have q9 := clsR_7 m hm9 hc9
    have q8 : m = 55 ∨ m = 56 ∨ m = 57 ∨ m = 58 ∨ m = 59 ∨ m = 60 ∨ m = 61 ∨ m = 62 ∨ m = 63 ∨ m = 64 ∨ m = 65 ∨ m = 66 ∨ m = 67 ∨ m = 68 ∨ m = 69 ∨ m = 70 ∨ m = 71 := by omega
    rcases q8 with q8 | q8 | q8 | q8 | q8 | q8 | q8 | q8 | q8 | q8 | q8 | q8 | q8 | q8 | q8 | q8 | q8
    · subst q8; rw [f55]; exact fo_55 ⟨_, rfl, by rw [o94], fun h => absurd h (by decide), fun _ => tg1 o94⟩
    · subst q8; rw [f56]; exact fo_56 (by decide)
    · subst q8; rw [f57]; exact fo_57 (by decide)
    · subst q8; rw [f58]; exact fo_58 (by decide)
    · subst q8; rw [f59]; exact fo_59 (⟨_, rfl, AR.of o95 (by decide) (by decide)⟩)
    · subst q8; rw [f60]; exact fo_60 (⟨_, rfl, AR.of o96 (by decide) (by decide)⟩)
    · subst q8; rw [f61]; exact fo_61 ⟨_, rfl, by rw [o97], fun h => absurd h (by decide), fun _ => tg1 o97⟩
    · subst q8; rw [f62]; exact fo_62 (⟨_, rfl, AR.of o98 (by decide) (by decide)⟩)
    · subst q8; rw [f63]; exact fo_63 (⟨_, rfl, AR.of o99 (by decide) (by decide)⟩)
    · subst q8; rw [f64]; exact fo_64 (⟨_, rfl, AR.of o100 (by decide) (by decide)⟩)
    · subst q8; rw [f65]; exact fo_65 (by decide)
    · subst q8; rw [f66]; exact fo_66 (by decide)
    · subst q8; rw [f67]; exact fo_67 (by decide)
    · subst q8; rw [f68]; exact fo_68 (by decide)
    · subst q8; rw [f69]; exact fo_69 (Or.inl (by decide))
    · subst q8; rw [f70]; exact fo_70 (by decide)
    · subst q8; rw [f71]; exact fo_71 (by decide)
  exact tn_vret rfl dX7_init_59 ⟨rfl, tT_eq, cx110.2.1.tag cx110.1 (by decide) hf9 (fun h => absurd h (by decide)), cx110.2.2.1.tag (by rw [cx110.1]; decide) (by decide), cx110.2.2.2.1.tag, cx110.2.2.2.2.1, cx110.2.2.2.2.2, nx7.tag, nx41.tag, f57⟩
end
section
set_option maxRecDepth 20000 in
theorem kc_X7_init_57 (d : Nat) {T : CT} {σ : MS} {a : Nat} {K : List Nat} {cs : Nat} (hraw : T a = (80 + 7, 0)) (hb : WTn T σ) (hcd : CD K T) (hdf : ∀ j, j < 200 → σ.2.1 j (a : Int) = dfF j) (h_cs : T cs = (4, 6)) : Tn (d + 1) m_X7_init 0 T σ [(0, .ref a), (1, .ref cs)] [] (fun ro T2 σ2 => ro = none ∧ T2 a = (57, 0) ∧ WTn T2 σ2 ∧ CD K T2 ∧ KPx a T σ T2 σ2 ∧ σ2.1 0 = σ.1 0 + (2063 : Nat) ∧ σ2.1 1 = σ.1 1 + (6 : Nat) ∧ NX 7 a T T2 ∧ NX 41 a T T2 ∧ σ2.2.1 57 (a : Int) = 0) := by
  have cx0 : CX a 7 K 0 0 T σ T σ := CX.begin hraw hb hcd
  have nx7 : NX 7 a T T := NX.begin (by decide)
  have nx41 : NX 41 a T T := NX.begin (by decide)
  have f55 : σ.2.1 55 a = -1 := (hdf 55 (by decide)).trans (by decide)
  have f56 : σ.2.1 56 a = 0 := (hdf 56 (by decide)).trans (by decide)
  have f57 : σ.2.1 57 a = 0 := (hdf 57 (by decide)).trans (by decide)
  have f58 : σ.2.1 58 a = 0 := (hdf 58 (by decide)).trans (by decide)
  have f59 : σ.2.1 59 a = -1 := (hdf 59 (by decide)).trans (by decide)
  have f60 : σ.2.1 60 a = -1 := (hdf 60 (by decide)).trans (by decide)
  have f61 : σ.2.1 61 a = -1 := (hdf 61 (by decide)).trans (by decide)
  have f62 : σ.2.1 62 a = -1 := (hdf 62 (by decide)).trans (by decide)
  have f63 : σ.2.1 63 a = -1 := (hdf 63 (by decide)).trans (by decide)
  have f64 : σ.2.1 64 a = -1 := (hdf 64 (by decide)).trans (by decide)
  have f65 : σ.2.1 65 a = 0 := (hdf 65 (by decide)).trans (by decide)
  have f66 : σ.2.1 66 a = 0 := (hdf 66 (by decide)).trans (by decide)
  have f67 : σ.2.1 67 a = 0 := (hdf 67 (by decide)).trans (by decide)
  have f68 : σ.2.1 68 a = 0 := (hdf 68 (by decide)).trans (by decide)
  have f69 : σ.2.1 69 a = -1 := (hdf 69 (by decide)).trans (by decide)
  have f70 : σ.2.1 70 a = 0 := (hdf 70 (by decide)).trans (by decide)
  have f71 : σ.2.1 71 a = 0 := (hdf 71 (by decide)).trans (by decide)
  refine tn_aload_n dX7_init_0 rfl 0 rfl ?_
  refine tn_objInit dX7_init_1 mlo7_3 oiI oiC (by omega) (Nat.le_of_ble_eq_true rfl) ?_
  refine tn_aload_n dX7_init_4 rfl 0 rfl ?_
  refine tn_bipush dX7_init_5 (by decide) ?_
  refine tn_newI (N := 9) (k := 15) dX7_init_7 arC_int (by decide) rfl (by decide) (fun x1 hx2 => ?_)
  have ne3 := cx0.ne hx2
  obtain ⟨T4, σ5, eT6, eS7, cx8, f55, f56, f57, f58, f59, f60, f61, f62, f63, f64, f65, f66, f67, f68, f69, f70, f71, o9, o10, nx7, nx41⟩ : ∃ (T4 : CT) (σ5 : MS), T4 = (tT T x1 15 9) ∧ σ5 = (rowS (1000 + x1) (fun _ => 0) (gh 9 σ)) ∧ CX a 7 K 9 1 T σ T4 σ5 ∧ (σ5.2.1 55 a = -1) ∧ (σ5.2.1 56 a = 0) ∧ (σ5.2.1 57 a = 0) ∧ (σ5.2.1 58 a = 0) ∧ (σ5.2.1 59 a = -1) ∧ (σ5.2.1 60 a = -1) ∧ (σ5.2.1 61 a = -1) ∧ (σ5.2.1 62 a = -1) ∧ (σ5.2.1 63 a = -1) ∧ (σ5.2.1 64 a = -1) ∧ (σ5.2.1 65 a = 0) ∧ (σ5.2.1 66 a = 0) ∧ (σ5.2.1 67 a = 0) ∧ (σ5.2.1 68 a = 0) ∧ (σ5.2.1 69 a = -1) ∧ (σ5.2.1 70 a = 0) ∧ (σ5.2.1 71 a = 0) ∧ (T4 cs = (4, 6)) ∧ (T4 x1 = (15, 9)) ∧ NX 7 a T T4 ∧ NX 41 a T T4 := ⟨_, _, rfl, rfl, (cx0.newI hx2 (by decide)), (by rw [rowS_ne (by omega)]; exact f55), (by rw [rowS_ne (by omega)]; exact f56), (by rw [rowS_ne (by omega)]; exact f57), (by rw [rowS_ne (by omega)]; exact f58), (by rw [rowS_ne (by omega)]; exact f59), (by rw [rowS_ne (by omega)]; exact f60), (by rw [rowS_ne (by omega)]; exact f61), (by rw [rowS_ne (by omega)]; exact f62), (by rw [rowS_ne (by omega)]; exact f63), (by rw [rowS_ne (by omega)]; exact f64), (by rw [rowS_ne (by omega)]; exact f65), (by rw [rowS_ne (by omega)]; exact f66), (by rw [rowS_ne (by omega)]; exact f67), (by rw [rowS_ne (by omega)]; exact f68), (by rw [rowS_ne (by omega)]; exact f69), (by rw [rowS_ne (by omega)]; exact f70), (by rw [rowS_ne (by omega)]; exact f71), (tk_keep h_cs (by decide) hx2), tT_eq, (nx7.mk9 (by decide)), (nx41.mk9 (by decide))⟩
  rw [← eT6]
  rw [← eS7]
  refine tn_putFr (ci := 7) (i := 4) (n := 59) (r := true) (v := (x1 : Int)) tyX7 tyX7_ok nmX7 dX7_init_9 rfl lay_7 (by decide) fl7_9 rfl rfl rfl (tyX7_ok 4 (by decide)) (vl_ref rfl).symm rfl rfl (cx8.r (by decide)) rfl rfl ?_
  obtain ⟨σ12, eS14, cx15, f55, f56, f57, f58, f59, f60, f61, f62, f63, f64, f65, f66, f67, f68, f69, f70, f71⟩ : ∃ (σ12 : MS), σ12 = (sA 59 a ((x1 : Int)) σ5) ∧ CX a 7 K 9 1 T σ T4 σ12 ∧ (σ12.2.1 55 a = -1) ∧ (σ12.2.1 56 a = 0) ∧ (σ12.2.1 57 a = 0) ∧ (σ12.2.1 58 a = 0) ∧ (σ12.2.1 59 a = (x1 : Int)) ∧ (σ12.2.1 60 a = -1) ∧ (σ12.2.1 61 a = -1) ∧ (σ12.2.1 62 a = -1) ∧ (σ12.2.1 63 a = -1) ∧ (σ12.2.1 64 a = -1) ∧ (σ12.2.1 65 a = 0) ∧ (σ12.2.1 66 a = 0) ∧ (σ12.2.1 67 a = 0) ∧ (σ12.2.1 68 a = 0) ∧ (σ12.2.1 69 a = -1) ∧ (σ12.2.1 70 a = 0) ∧ (σ12.2.1 71 a = 0) := ⟨_, rfl, (cx8.put (by decide)), (rc_o (by decide) f55), (rc_o (by decide) f56), (rc_o (by decide) f57), (rc_o (by decide) f58), ra_eq, (rc_o (by decide) f60), (rc_o (by decide) f61), (rc_o (by decide) f62), (rc_o (by decide) f63), (rc_o (by decide) f64), (rc_o (by decide) f65), (rc_o (by decide) f66), (rc_o (by decide) f67), (rc_o (by decide) f68), (rc_o (by decide) f69), (rc_o (by decide) f70), (rc_o (by decide) f71)⟩
  rw [← eS14]
  refine tn_aload_n dX7_init_12 rfl 0 rfl ?_
  refine tn_bipush dX7_init_13 (by decide) ?_
  refine tn_newI (N := 9) (k := 1) dX7_init_15 arC_int (by decide) rfl (by decide) (fun x16 hx17 => ?_)
  have ne18 := cx15.ne hx17
  obtain ⟨T19, σ20, eT21, eS22, cx23, f55, f56, f57, f58, f59, f60, f61, f62, f63, f64, f65, f66, f67, f68, f69, f70, f71, o24, o25, o26, nx7, nx41⟩ : ∃ (T19 : CT) (σ20 : MS), T19 = (tT T4 x16 1 9) ∧ σ20 = (rowS (1000 + x16) (fun _ => 0) (gh 9 σ12)) ∧ CX a 7 K 18 2 T σ T19 σ20 ∧ (σ20.2.1 55 a = -1) ∧ (σ20.2.1 56 a = 0) ∧ (σ20.2.1 57 a = 0) ∧ (σ20.2.1 58 a = 0) ∧ (σ20.2.1 59 a = (x1 : Int)) ∧ (σ20.2.1 60 a = -1) ∧ (σ20.2.1 61 a = -1) ∧ (σ20.2.1 62 a = -1) ∧ (σ20.2.1 63 a = -1) ∧ (σ20.2.1 64 a = -1) ∧ (σ20.2.1 65 a = 0) ∧ (σ20.2.1 66 a = 0) ∧ (σ20.2.1 67 a = 0) ∧ (σ20.2.1 68 a = 0) ∧ (σ20.2.1 69 a = -1) ∧ (σ20.2.1 70 a = 0) ∧ (σ20.2.1 71 a = 0) ∧ (T19 cs = (4, 6)) ∧ (T19 x1 = (15, 9)) ∧ (T19 x16 = (1, 9)) ∧ NX 7 a T T19 ∧ NX 41 a T T19 := ⟨_, _, rfl, rfl, (cx15.newI hx17 (by decide)), (by rw [rowS_ne (by omega)]; exact f55), (by rw [rowS_ne (by omega)]; exact f56), (by rw [rowS_ne (by omega)]; exact f57), (by rw [rowS_ne (by omega)]; exact f58), (by rw [rowS_ne (by omega)]; exact f59), (by rw [rowS_ne (by omega)]; exact f60), (by rw [rowS_ne (by omega)]; exact f61), (by rw [rowS_ne (by omega)]; exact f62), (by rw [rowS_ne (by omega)]; exact f63), (by rw [rowS_ne (by omega)]; exact f64), (by rw [rowS_ne (by omega)]; exact f65), (by rw [rowS_ne (by omega)]; exact f66), (by rw [rowS_ne (by omega)]; exact f67), (by rw [rowS_ne (by omega)]; exact f68), (by rw [rowS_ne (by omega)]; exact f69), (by rw [rowS_ne (by omega)]; exact f70), (by rw [rowS_ne (by omega)]; exact f71), (tk_keep o9 (by decide) hx17), (tk_keep o10 (by decide) hx17), tT_eq, (nx7.mk9 (by decide)), (nx41.mk9 (by decide))⟩
  rw [← eT21]
  rw [← eS22]
  refine tn_putFr (ci := 7) (i := 5) (n := 60) (r := true) (v := (x16 : Int)) tyX7 tyX7_ok nmX7 dX7_init_17 rfl lay_7 (by decide) fl7_15 rfl rfl rfl (tyX7_ok 5 (by decide)) (vl_ref rfl).symm rfl rfl (cx23.r (by decide)) rfl rfl ?_
  obtain ⟨σ28, eS30, cx31, f55, f56, f57, f58, f59, f60, f61, f62, f63, f64, f65, f66, f67, f68, f69, f70, f71⟩ : ∃ (σ28 : MS), σ28 = (sA 60 a ((x16 : Int)) σ20) ∧ CX a 7 K 18 2 T σ T19 σ28 ∧ (σ28.2.1 55 a = -1) ∧ (σ28.2.1 56 a = 0) ∧ (σ28.2.1 57 a = 0) ∧ (σ28.2.1 58 a = 0) ∧ (σ28.2.1 59 a = (x1 : Int)) ∧ (σ28.2.1 60 a = (x16 : Int)) ∧ (σ28.2.1 61 a = -1) ∧ (σ28.2.1 62 a = -1) ∧ (σ28.2.1 63 a = -1) ∧ (σ28.2.1 64 a = -1) ∧ (σ28.2.1 65 a = 0) ∧ (σ28.2.1 66 a = 0) ∧ (σ28.2.1 67 a = 0) ∧ (σ28.2.1 68 a = 0) ∧ (σ28.2.1 69 a = -1) ∧ (σ28.2.1 70 a = 0) ∧ (σ28.2.1 71 a = 0) := ⟨_, rfl, (cx23.put (by decide)), (rc_o (by decide) f55), (rc_o (by decide) f56), (rc_o (by decide) f57), (rc_o (by decide) f58), (rc_o (by decide) f59), ra_eq, (rc_o (by decide) f61), (rc_o (by decide) f62), (rc_o (by decide) f63), (rc_o (by decide) f64), (rc_o (by decide) f65), (rc_o (by decide) f66), (rc_o (by decide) f67), (rc_o (by decide) f68), (rc_o (by decide) f69), (rc_o (by decide) f70), (rc_o (by decide) f71)⟩
  rw [← eS30]
  refine tn_aload_n dX7_init_20 rfl 0 rfl ?_
  refine tn_bipush dX7_init_21 (by decide) ?_
  refine tn_newI (N := 9) (k := 14) dX7_init_23 arC_int (by decide) rfl (by decide) (fun x32 hx33 => ?_)
  have ne34 := cx31.ne hx33
  obtain ⟨T35, σ36, eT37, eS38, cx39, f55, f56, f57, f58, f59, f60, f61, f62, f63, f64, f65, f66, f67, f68, f69, f70, f71, o40, o41, o42, o43, nx7, nx41⟩ : ∃ (T35 : CT) (σ36 : MS), T35 = (tT T19 x32 14 9) ∧ σ36 = (rowS (1000 + x32) (fun _ => 0) (gh 9 σ28)) ∧ CX a 7 K 27 3 T σ T35 σ36 ∧ (σ36.2.1 55 a = -1) ∧ (σ36.2.1 56 a = 0) ∧ (σ36.2.1 57 a = 0) ∧ (σ36.2.1 58 a = 0) ∧ (σ36.2.1 59 a = (x1 : Int)) ∧ (σ36.2.1 60 a = (x16 : Int)) ∧ (σ36.2.1 61 a = -1) ∧ (σ36.2.1 62 a = -1) ∧ (σ36.2.1 63 a = -1) ∧ (σ36.2.1 64 a = -1) ∧ (σ36.2.1 65 a = 0) ∧ (σ36.2.1 66 a = 0) ∧ (σ36.2.1 67 a = 0) ∧ (σ36.2.1 68 a = 0) ∧ (σ36.2.1 69 a = -1) ∧ (σ36.2.1 70 a = 0) ∧ (σ36.2.1 71 a = 0) ∧ (T35 cs = (4, 6)) ∧ (T35 x1 = (15, 9)) ∧ (T35 x16 = (1, 9)) ∧ (T35 x32 = (14, 9)) ∧ NX 7 a T T35 ∧ NX 41 a T T35 := ⟨_, _, rfl, rfl, (cx31.newI hx33 (by decide)), (by rw [rowS_ne (by omega)]; exact f55), (by rw [rowS_ne (by omega)]; exact f56), (by rw [rowS_ne (by omega)]; exact f57), (by rw [rowS_ne (by omega)]; exact f58), (by rw [rowS_ne (by omega)]; exact f59), (by rw [rowS_ne (by omega)]; exact f60), (by rw [rowS_ne (by omega)]; exact f61), (by rw [rowS_ne (by omega)]; exact f62), (by rw [rowS_ne (by omega)]; exact f63), (by rw [rowS_ne (by omega)]; exact f64), (by rw [rowS_ne (by omega)]; exact f65), (by rw [rowS_ne (by omega)]; exact f66), (by rw [rowS_ne (by omega)]; exact f67), (by rw [rowS_ne (by omega)]; exact f68), (by rw [rowS_ne (by omega)]; exact f69), (by rw [rowS_ne (by omega)]; exact f70), (by rw [rowS_ne (by omega)]; exact f71), (tk_keep o24 (by decide) hx33), (tk_keep o25 (by decide) hx33), (tk_keep o26 (by decide) hx33), tT_eq, (nx7.mk9 (by decide)), (nx41.mk9 (by decide))⟩
  rw [← eT37]
  rw [← eS38]
  refine tn_putFr (ci := 7) (i := 6) (n := 61) (r := true) (v := (x32 : Int)) tyX7 tyX7_ok nmX7 dX7_init_25 rfl lay_7 (by decide) fl7_18 rfl rfl rfl (tyX7_ok 6 (by decide)) (vl_ref rfl).symm rfl rfl (cx39.r (by decide)) rfl rfl ?_
  obtain ⟨σ45, eS47, cx48, f55, f56, f57, f58, f59, f60, f61, f62, f63, f64, f65, f66, f67, f68, f69, f70, f71⟩ : ∃ (σ45 : MS), σ45 = (sA 61 a ((x32 : Int)) σ36) ∧ CX a 7 K 27 3 T σ T35 σ45 ∧ (σ45.2.1 55 a = -1) ∧ (σ45.2.1 56 a = 0) ∧ (σ45.2.1 57 a = 0) ∧ (σ45.2.1 58 a = 0) ∧ (σ45.2.1 59 a = (x1 : Int)) ∧ (σ45.2.1 60 a = (x16 : Int)) ∧ (σ45.2.1 61 a = (x32 : Int)) ∧ (σ45.2.1 62 a = -1) ∧ (σ45.2.1 63 a = -1) ∧ (σ45.2.1 64 a = -1) ∧ (σ45.2.1 65 a = 0) ∧ (σ45.2.1 66 a = 0) ∧ (σ45.2.1 67 a = 0) ∧ (σ45.2.1 68 a = 0) ∧ (σ45.2.1 69 a = -1) ∧ (σ45.2.1 70 a = 0) ∧ (σ45.2.1 71 a = 0) := ⟨_, rfl, (cx39.put (by decide)), (rc_o (by decide) f55), (rc_o (by decide) f56), (rc_o (by decide) f57), (rc_o (by decide) f58), (rc_o (by decide) f59), (rc_o (by decide) f60), ra_eq, (rc_o (by decide) f62), (rc_o (by decide) f63), (rc_o (by decide) f64), (rc_o (by decide) f65), (rc_o (by decide) f66), (rc_o (by decide) f67), (rc_o (by decide) f68), (rc_o (by decide) f69), (rc_o (by decide) f70), (rc_o (by decide) f71)⟩
  rw [← eS47]
  refine tn_aload_n dX7_init_28 rfl 0 rfl ?_
  refine tn_bipush dX7_init_29 (by decide) ?_
  refine tn_newI (N := 108) (k := 1) dX7_init_31 arC_int (by decide) rfl (by decide) (fun x49 hx50 => ?_)
  have ne51 := cx48.ne hx50
  obtain ⟨T52, σ53, eT54, eS55, cx56, f55, f56, f57, f58, f59, f60, f61, f62, f63, f64, f65, f66, f67, f68, f69, f70, f71, o57, o58, o59, o60, o61, nx7, nx41⟩ : ∃ (T52 : CT) (σ53 : MS), T52 = (tT T35 x49 1 108) ∧ σ53 = (rowS (1000 + x49) (fun _ => 0) (gh 108 σ45)) ∧ CX a 7 K 135 4 T σ T52 σ53 ∧ (σ53.2.1 55 a = -1) ∧ (σ53.2.1 56 a = 0) ∧ (σ53.2.1 57 a = 0) ∧ (σ53.2.1 58 a = 0) ∧ (σ53.2.1 59 a = (x1 : Int)) ∧ (σ53.2.1 60 a = (x16 : Int)) ∧ (σ53.2.1 61 a = (x32 : Int)) ∧ (σ53.2.1 62 a = -1) ∧ (σ53.2.1 63 a = -1) ∧ (σ53.2.1 64 a = -1) ∧ (σ53.2.1 65 a = 0) ∧ (σ53.2.1 66 a = 0) ∧ (σ53.2.1 67 a = 0) ∧ (σ53.2.1 68 a = 0) ∧ (σ53.2.1 69 a = -1) ∧ (σ53.2.1 70 a = 0) ∧ (σ53.2.1 71 a = 0) ∧ (T52 cs = (4, 6)) ∧ (T52 x1 = (15, 9)) ∧ (T52 x16 = (1, 9)) ∧ (T52 x32 = (14, 9)) ∧ (T52 x49 = (1, 108)) ∧ NX 7 a T T52 ∧ NX 41 a T T52 := ⟨_, _, rfl, rfl, (cx48.newI hx50 (by decide)), (by rw [rowS_ne (by omega)]; exact f55), (by rw [rowS_ne (by omega)]; exact f56), (by rw [rowS_ne (by omega)]; exact f57), (by rw [rowS_ne (by omega)]; exact f58), (by rw [rowS_ne (by omega)]; exact f59), (by rw [rowS_ne (by omega)]; exact f60), (by rw [rowS_ne (by omega)]; exact f61), (by rw [rowS_ne (by omega)]; exact f62), (by rw [rowS_ne (by omega)]; exact f63), (by rw [rowS_ne (by omega)]; exact f64), (by rw [rowS_ne (by omega)]; exact f65), (by rw [rowS_ne (by omega)]; exact f66), (by rw [rowS_ne (by omega)]; exact f67), (by rw [rowS_ne (by omega)]; exact f68), (by rw [rowS_ne (by omega)]; exact f69), (by rw [rowS_ne (by omega)]; exact f70), (by rw [rowS_ne (by omega)]; exact f71), (tk_keep o40 (by decide) hx50), (tk_keep o41 (by decide) hx50), (tk_keep o42 (by decide) hx50), (tk_keep o43 (by decide) hx50), tT_eq, (nx7.mk9 (by decide)), (nx41.mk9 (by decide))⟩
  rw [← eT54]
  rw [← eS55]
  refine tn_putFr (ci := 7) (i := 7) (n := 62) (r := true) (v := (x49 : Int)) tyX7 tyX7_ok nmX7 dX7_init_33 rfl lay_7 (by decide) fl7_21 rfl rfl rfl (tyX7_ok 7 (by decide)) (vl_ref rfl).symm rfl rfl (cx56.r (by decide)) rfl rfl ?_
  obtain ⟨σ63, eS65, cx66, f55, f56, f57, f58, f59, f60, f61, f62, f63, f64, f65, f66, f67, f68, f69, f70, f71⟩ : ∃ (σ63 : MS), σ63 = (sA 62 a ((x49 : Int)) σ53) ∧ CX a 7 K 135 4 T σ T52 σ63 ∧ (σ63.2.1 55 a = -1) ∧ (σ63.2.1 56 a = 0) ∧ (σ63.2.1 57 a = 0) ∧ (σ63.2.1 58 a = 0) ∧ (σ63.2.1 59 a = (x1 : Int)) ∧ (σ63.2.1 60 a = (x16 : Int)) ∧ (σ63.2.1 61 a = (x32 : Int)) ∧ (σ63.2.1 62 a = (x49 : Int)) ∧ (σ63.2.1 63 a = -1) ∧ (σ63.2.1 64 a = -1) ∧ (σ63.2.1 65 a = 0) ∧ (σ63.2.1 66 a = 0) ∧ (σ63.2.1 67 a = 0) ∧ (σ63.2.1 68 a = 0) ∧ (σ63.2.1 69 a = -1) ∧ (σ63.2.1 70 a = 0) ∧ (σ63.2.1 71 a = 0) := ⟨_, rfl, (cx56.put (by decide)), (rc_o (by decide) f55), (rc_o (by decide) f56), (rc_o (by decide) f57), (rc_o (by decide) f58), (rc_o (by decide) f59), (rc_o (by decide) f60), (rc_o (by decide) f61), ra_eq, (rc_o (by decide) f63), (rc_o (by decide) f64), (rc_o (by decide) f65), (rc_o (by decide) f66), (rc_o (by decide) f67), (rc_o (by decide) f68), (rc_o (by decide) f69), (rc_o (by decide) f70), (rc_o (by decide) f71)⟩
  rw [← eS65]
  refine tn_aload_n dX7_init_36 rfl 0 rfl ?_
  refine tn_sipush dX7_init_37 (by decide) ?_
  refine tn_newI (N := 1728) (k := 1) dX7_init_40 arC_int (by decide) rfl (by decide) (fun x67 hx68 => ?_)
  have ne69 := cx66.ne hx68
  obtain ⟨T70, σ71, eT72, eS73, cx74, f55, f56, f57, f58, f59, f60, f61, f62, f63, f64, f65, f66, f67, f68, f69, f70, f71, o75, o76, o77, o78, o79, o80, nx7, nx41⟩ : ∃ (T70 : CT) (σ71 : MS), T70 = (tT T52 x67 1 1728) ∧ σ71 = (rowS (1000 + x67) (fun _ => 0) (gh 1728 σ63)) ∧ CX a 7 K 1863 5 T σ T70 σ71 ∧ (σ71.2.1 55 a = -1) ∧ (σ71.2.1 56 a = 0) ∧ (σ71.2.1 57 a = 0) ∧ (σ71.2.1 58 a = 0) ∧ (σ71.2.1 59 a = (x1 : Int)) ∧ (σ71.2.1 60 a = (x16 : Int)) ∧ (σ71.2.1 61 a = (x32 : Int)) ∧ (σ71.2.1 62 a = (x49 : Int)) ∧ (σ71.2.1 63 a = -1) ∧ (σ71.2.1 64 a = -1) ∧ (σ71.2.1 65 a = 0) ∧ (σ71.2.1 66 a = 0) ∧ (σ71.2.1 67 a = 0) ∧ (σ71.2.1 68 a = 0) ∧ (σ71.2.1 69 a = -1) ∧ (σ71.2.1 70 a = 0) ∧ (σ71.2.1 71 a = 0) ∧ (T70 cs = (4, 6)) ∧ (T70 x1 = (15, 9)) ∧ (T70 x16 = (1, 9)) ∧ (T70 x32 = (14, 9)) ∧ (T70 x49 = (1, 108)) ∧ (T70 x67 = (1, 1728)) ∧ NX 7 a T T70 ∧ NX 41 a T T70 := ⟨_, _, rfl, rfl, (cx66.newI hx68 (by decide)), (by rw [rowS_ne (by omega)]; exact f55), (by rw [rowS_ne (by omega)]; exact f56), (by rw [rowS_ne (by omega)]; exact f57), (by rw [rowS_ne (by omega)]; exact f58), (by rw [rowS_ne (by omega)]; exact f59), (by rw [rowS_ne (by omega)]; exact f60), (by rw [rowS_ne (by omega)]; exact f61), (by rw [rowS_ne (by omega)]; exact f62), (by rw [rowS_ne (by omega)]; exact f63), (by rw [rowS_ne (by omega)]; exact f64), (by rw [rowS_ne (by omega)]; exact f65), (by rw [rowS_ne (by omega)]; exact f66), (by rw [rowS_ne (by omega)]; exact f67), (by rw [rowS_ne (by omega)]; exact f68), (by rw [rowS_ne (by omega)]; exact f69), (by rw [rowS_ne (by omega)]; exact f70), (by rw [rowS_ne (by omega)]; exact f71), (tk_keep o57 (by decide) hx68), (tk_keep o58 (by decide) hx68), (tk_keep o59 (by decide) hx68), (tk_keep o60 (by decide) hx68), (tk_keep o61 (by decide) hx68), tT_eq, (nx7.mk9 (by decide)), (nx41.mk9 (by decide))⟩
  rw [← eT72]
  rw [← eS73]
  refine tn_putFr (ci := 7) (i := 8) (n := 63) (r := true) (v := (x67 : Int)) tyX7 tyX7_ok nmX7 dX7_init_42 rfl lay_7 (by decide) fl7_24 rfl rfl rfl (tyX7_ok 8 (by decide)) (vl_ref rfl).symm rfl rfl (cx74.r (by decide)) rfl rfl ?_
  obtain ⟨σ82, eS84, cx85, f55, f56, f57, f58, f59, f60, f61, f62, f63, f64, f65, f66, f67, f68, f69, f70, f71⟩ : ∃ (σ82 : MS), σ82 = (sA 63 a ((x67 : Int)) σ71) ∧ CX a 7 K 1863 5 T σ T70 σ82 ∧ (σ82.2.1 55 a = -1) ∧ (σ82.2.1 56 a = 0) ∧ (σ82.2.1 57 a = 0) ∧ (σ82.2.1 58 a = 0) ∧ (σ82.2.1 59 a = (x1 : Int)) ∧ (σ82.2.1 60 a = (x16 : Int)) ∧ (σ82.2.1 61 a = (x32 : Int)) ∧ (σ82.2.1 62 a = (x49 : Int)) ∧ (σ82.2.1 63 a = (x67 : Int)) ∧ (σ82.2.1 64 a = -1) ∧ (σ82.2.1 65 a = 0) ∧ (σ82.2.1 66 a = 0) ∧ (σ82.2.1 67 a = 0) ∧ (σ82.2.1 68 a = 0) ∧ (σ82.2.1 69 a = -1) ∧ (σ82.2.1 70 a = 0) ∧ (σ82.2.1 71 a = 0) := ⟨_, rfl, (cx74.put (by decide)), (rc_o (by decide) f55), (rc_o (by decide) f56), (rc_o (by decide) f57), (rc_o (by decide) f58), (rc_o (by decide) f59), (rc_o (by decide) f60), (rc_o (by decide) f61), (rc_o (by decide) f62), ra_eq, (rc_o (by decide) f64), (rc_o (by decide) f65), (rc_o (by decide) f66), (rc_o (by decide) f67), (rc_o (by decide) f68), (rc_o (by decide) f69), (rc_o (by decide) f70), (rc_o (by decide) f71)⟩
  rw [← eS84]
  refine tn_aload_n dX7_init_45 rfl 0 rfl ?_
  refine tn_sipush dX7_init_46 (by decide) ?_
  refine tn_newI (N := 200) (k := 1) dX7_init_49 arC_int (by decide) rfl (by decide) (fun x86 hx87 => ?_)
  have ne88 := cx85.ne hx87
  obtain ⟨T89, σ90, eT91, eS92, cx93, f55, f56, f57, f58, f59, f60, f61, f62, f63, f64, f65, f66, f67, f68, f69, f70, f71, o94, o95, o96, o97, o98, o99, o100, nx7, nx41⟩ : ∃ (T89 : CT) (σ90 : MS), T89 = (tT T70 x86 1 200) ∧ σ90 = (rowS (1000 + x86) (fun _ => 0) (gh 200 σ82)) ∧ CX a 7 K 2063 6 T σ T89 σ90 ∧ (σ90.2.1 55 a = -1) ∧ (σ90.2.1 56 a = 0) ∧ (σ90.2.1 57 a = 0) ∧ (σ90.2.1 58 a = 0) ∧ (σ90.2.1 59 a = (x1 : Int)) ∧ (σ90.2.1 60 a = (x16 : Int)) ∧ (σ90.2.1 61 a = (x32 : Int)) ∧ (σ90.2.1 62 a = (x49 : Int)) ∧ (σ90.2.1 63 a = (x67 : Int)) ∧ (σ90.2.1 64 a = -1) ∧ (σ90.2.1 65 a = 0) ∧ (σ90.2.1 66 a = 0) ∧ (σ90.2.1 67 a = 0) ∧ (σ90.2.1 68 a = 0) ∧ (σ90.2.1 69 a = -1) ∧ (σ90.2.1 70 a = 0) ∧ (σ90.2.1 71 a = 0) ∧ (T89 cs = (4, 6)) ∧ (T89 x1 = (15, 9)) ∧ (T89 x16 = (1, 9)) ∧ (T89 x32 = (14, 9)) ∧ (T89 x49 = (1, 108)) ∧ (T89 x67 = (1, 1728)) ∧ (T89 x86 = (1, 200)) ∧ NX 7 a T T89 ∧ NX 41 a T T89 := ⟨_, _, rfl, rfl, (cx85.newI hx87 (by decide)), (by rw [rowS_ne (by omega)]; exact f55), (by rw [rowS_ne (by omega)]; exact f56), (by rw [rowS_ne (by omega)]; exact f57), (by rw [rowS_ne (by omega)]; exact f58), (by rw [rowS_ne (by omega)]; exact f59), (by rw [rowS_ne (by omega)]; exact f60), (by rw [rowS_ne (by omega)]; exact f61), (by rw [rowS_ne (by omega)]; exact f62), (by rw [rowS_ne (by omega)]; exact f63), (by rw [rowS_ne (by omega)]; exact f64), (by rw [rowS_ne (by omega)]; exact f65), (by rw [rowS_ne (by omega)]; exact f66), (by rw [rowS_ne (by omega)]; exact f67), (by rw [rowS_ne (by omega)]; exact f68), (by rw [rowS_ne (by omega)]; exact f69), (by rw [rowS_ne (by omega)]; exact f70), (by rw [rowS_ne (by omega)]; exact f71), (tk_keep o75 (by decide) hx87), (tk_keep o76 (by decide) hx87), (tk_keep o77 (by decide) hx87), (tk_keep o78 (by decide) hx87), (tk_keep o79 (by decide) hx87), (tk_keep o80 (by decide) hx87), tT_eq, (nx7.mk9 (by decide)), (nx41.mk9 (by decide))⟩
  rw [← eT91]
  rw [← eS92]
  refine tn_putFr (ci := 7) (i := 9) (n := 64) (r := true) (v := (x86 : Int)) tyX7 tyX7_ok nmX7 dX7_init_51 rfl lay_7 (by decide) fl7_27 rfl rfl rfl (tyX7_ok 9 (by decide)) (vl_ref rfl).symm rfl rfl (cx93.r (by decide)) rfl rfl ?_
  obtain ⟨σ102, eS104, cx105, f55, f56, f57, f58, f59, f60, f61, f62, f63, f64, f65, f66, f67, f68, f69, f70, f71⟩ : ∃ (σ102 : MS), σ102 = (sA 64 a ((x86 : Int)) σ90) ∧ CX a 7 K 2063 6 T σ T89 σ102 ∧ (σ102.2.1 55 a = -1) ∧ (σ102.2.1 56 a = 0) ∧ (σ102.2.1 57 a = 0) ∧ (σ102.2.1 58 a = 0) ∧ (σ102.2.1 59 a = (x1 : Int)) ∧ (σ102.2.1 60 a = (x16 : Int)) ∧ (σ102.2.1 61 a = (x32 : Int)) ∧ (σ102.2.1 62 a = (x49 : Int)) ∧ (σ102.2.1 63 a = (x67 : Int)) ∧ (σ102.2.1 64 a = (x86 : Int)) ∧ (σ102.2.1 65 a = 0) ∧ (σ102.2.1 66 a = 0) ∧ (σ102.2.1 67 a = 0) ∧ (σ102.2.1 68 a = 0) ∧ (σ102.2.1 69 a = -1) ∧ (σ102.2.1 70 a = 0) ∧ (σ102.2.1 71 a = 0) := ⟨_, rfl, (cx93.put (by decide)), (rc_o (by decide) f55), (rc_o (by decide) f56), (rc_o (by decide) f57), (rc_o (by decide) f58), (rc_o (by decide) f59), (rc_o (by decide) f60), (rc_o (by decide) f61), (rc_o (by decide) f62), (rc_o (by decide) f63), ra_eq, (rc_o (by decide) f65), (rc_o (by decide) f66), (rc_o (by decide) f67), (rc_o (by decide) f68), (rc_o (by decide) f69), (rc_o (by decide) f70), (rc_o (by decide) f71)⟩
  rw [← eS104]
  refine tn_aload_n dX7_init_54 rfl 0 rfl ?_
  refine tn_aload_n dX7_init_55 rfl 1 rfl ?_
  refine tn_putFr (ci := 7) (i := 0) (n := 55) (r := true) (v := (cs : Int)) tyX7 tyX7_ok nmX7 dX7_init_56 rfl lay_7 (by decide) fl7_30 rfl rfl rfl (tyX7_ok 0 (by decide)) (vl_ref rfl).symm rfl rfl (cx105.r (by decide)) rfl rfl ?_
  obtain ⟨σ107, eS109, cx110, f55, f56, f57, f58, f59, f60, f61, f62, f63, f64, f65, f66, f67, f68, f69, f70, f71⟩ : ∃ (σ107 : MS), σ107 = (sA 55 a ((cs : Int)) σ102) ∧ CX a 7 K 2063 6 T σ T89 σ107 ∧ (σ107.2.1 55 a = (cs : Int)) ∧ (σ107.2.1 56 a = 0) ∧ (σ107.2.1 57 a = 0) ∧ (σ107.2.1 58 a = 0) ∧ (σ107.2.1 59 a = (x1 : Int)) ∧ (σ107.2.1 60 a = (x16 : Int)) ∧ (σ107.2.1 61 a = (x32 : Int)) ∧ (σ107.2.1 62 a = (x49 : Int)) ∧ (σ107.2.1 63 a = (x67 : Int)) ∧ (σ107.2.1 64 a = (x86 : Int)) ∧ (σ107.2.1 65 a = 0) ∧ (σ107.2.1 66 a = 0) ∧ (σ107.2.1 67 a = 0) ∧ (σ107.2.1 68 a = 0) ∧ (σ107.2.1 69 a = -1) ∧ (σ107.2.1 70 a = 0) ∧ (σ107.2.1 71 a = 0) := ⟨_, rfl, (cx105.put (by decide)), ra_eq, (rc_o (by decide) f56), (rc_o (by decide) f57), (rc_o (by decide) f58), (rc_o (by decide) f59), (rc_o (by decide) f60), (rc_o (by decide) f61), (rc_o (by decide) f62), (rc_o (by decide) f63), (rc_o (by decide) f64), (rc_o (by decide) f65), (rc_o (by decide) f66), (rc_o (by decide) f67), (rc_o (by decide) f68), (rc_o (by decide) f69), (rc_o (by decide) f70), (rc_o (by decide) f71)⟩
  rw [← eS109]
  refine tn_tag (ci := 7) (k := 57) (by decide) cx110.1 (by decide) ?_
  have hf9 : ∀ m, m < 111 → cls m = 7 → FO m 57 T89 (σ107.2.1 m a) := fun m hm9 hc9 => by
    have q9 := clsR_7 m hm9 hc9
    have q8 : m = 55 ∨ m = 56 ∨ m = 57 ∨ m = 58 ∨ m = 59 ∨ m = 60 ∨ m = 61 ∨ m = 62 ∨ m = 63 ∨ m = 64 ∨ m = 65 ∨ m = 66 ∨ m = 67 ∨ m = 68 ∨ m = 69 ∨ m = 70 ∨ m = 71 := by omega
    rcases q8 with q8 | q8 | q8 | q8 | q8 | q8 | q8 | q8 | q8 | q8 | q8 | q8 | q8 | q8 | q8 | q8 | q8
    · subst q8; rw [f55]; exact fo_55 ⟨_, rfl, by rw [o94], fun _ => tg1 o94, fun h => absurd rfl h⟩
    · subst q8; rw [f56]; exact fo_56 (by decide)
    · subst q8; rw [f57]; exact fo_57 (by decide)
    · subst q8; rw [f58]; exact fo_58 (by decide)
    · subst q8; rw [f59]; exact fo_59 (⟨_, rfl, AR.of o95 (by decide) (by decide)⟩)
    · subst q8; rw [f60]; exact fo_60 (⟨_, rfl, AR.of o96 (by decide) (by decide)⟩)
    · subst q8; rw [f61]; exact fo_61 ⟨_, rfl, by rw [o97], fun _ => tg1 o97, fun h => absurd rfl h⟩
    · subst q8; rw [f62]; exact fo_62 (⟨_, rfl, AR.of o98 (by decide) (by decide)⟩)
    · subst q8; rw [f63]; exact fo_63 (⟨_, rfl, AR.of o99 (by decide) (by decide)⟩)
    · subst q8; rw [f64]; exact fo_64 (⟨_, rfl, AR.of o100 (by decide) (by decide)⟩)
    · subst q8; rw [f65]; exact fo_65 (by decide)
    · subst q8; rw [f66]; exact fo_66 (by decide)
    · subst q8; rw [f67]; exact fo_67 (by decide)
    · subst q8; rw [f68]; exact fo_68 (by decide)
    · subst q8; rw [f69]; exact fo_69 (Or.inl (by decide))
    · subst q8; rw [f70]; exact fo_70 (by decide)
    · subst q8; rw [f71]; exact fo_71 (by decide)
  exact tn_vret rfl dX7_init_59 ⟨rfl, tT_eq, cx110.2.1.tag cx110.1 (by decide) hf9 (fun h => absurd h (by decide)), cx110.2.2.1.tag (by rw [cx110.1]; decide) (by decide), cx110.2.2.2.1.tag, cx110.2.2.2.2.1, cx110.2.2.2.2.2, nx7.tag, nx41.tag, f57⟩
end
