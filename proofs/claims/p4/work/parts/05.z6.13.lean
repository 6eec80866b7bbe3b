theorem cd_X11_read : Cond.code yX11_read cX11_read 3 (some .int) ∈ pWW := pw3 (List.mem_of_getElem? (i := 20) rfl) rfl
abbrev m_X11_read : MT := (yX11_read, cX11_read, 3, (some .int))
theorem ok_X11_read : pOk m_X11_read := ⟨⟨cd_X11_read, ini_11⟩, by decide +kernel, ⟨by decide +kernel, by decide +kernel⟩, Nat.le_of_ble_eq_true rfl⟩
theorem np_X11_read : (parseMethodDescriptor yX11_read.desc).map (fun d => d.parameters.length) = some 0 := by decide +kernel
theorem im_X11_read : Cond.instanceMethod yX11_read ∈ pWW := pw3 (List.mem_of_getElem? (i := 18) rfl) rfl
theorem se_X11_read : Cond.selects RX11 yX11_read yX11_read ∈ pWW := pw3 (List.mem_of_getElem? (i := 19) rfl) rfl
theorem ml11_94 : Cond.methodLink RX11 94 yX5_take ∈ pWW := pw3 (List.mem_of_getElem? (i := 21) rfl) rfl
theorem fl11_98 : Cond.fieldLink RX11 98 (TX5 10).1 (TX5 10).2.1 (TX5 10).2.2.1 ∈ pWW := pw1 (List.mem_of_getElem? (i := 165) rfl) rfl
theorem fl11_104 : Cond.fieldLink RX11 104 (TX5 11).1 (TX5 11).2.1 (TX5 11).2.2.1 ∈ pWW := pw1 (List.mem_of_getElem? (i := 167) rfl) rfl
theorem fl11_107 : Cond.fieldLink RX11 107 (TX5 5).1 (TX5 5).2.1 (TX5 5).2.2.1 ∈ pWW := pw1 (List.mem_of_getElem? (i := 159) rfl) rfl
theorem ml11_117 : Cond.methodLink RX11 117 yX11_takeMade ∈ pWW := pw4 (List.mem_of_getElem? (i := 16) rfl) rfl
theorem dX11_read_0 : decode cX11_read 0 = .ok (.aload_n 0, 1) := by decide +kernel
theorem dX11_read_1 : decode cX11_read 1 = .ok (.getfield 25, 3) := by decide +kernel
theorem dX11_read_4 : decode cX11_read 4 = .ok (.aload_n 0, 1) := by decide +kernel
theorem dX11_read_5 : decode cX11_read 5 = .ok (.getfield 9, 3) := by decide +kernel
theorem dX11_read_8 : decode cX11_read 8 = .ok (.aload_n 0, 1) := by decide +kernel
theorem dX11_read_9 : decode cX11_read 9 = .ok (.getfield 87, 3) := by decide +kernel
theorem dX11_read_12 : decode cX11_read 12 = .ok (.invokevirtual 94, 3) := by decide +kernel
theorem dX11_read_15 : decode cX11_read 15 = .ok (.istore_n 1, 1) := by decide +kernel
theorem dX11_read_16 : decode cX11_read 16 = .ok (.aload_n 0, 1) := by decide +kernel
theorem dX11_read_17 : decode cX11_read 17 = .ok (.iconst 0, 1) := by decide +kernel
theorem dX11_read_18 : decode cX11_read 18 = .ok (.putfield 87, 3) := by decide +kernel
theorem dX11_read_21 : decode cX11_read 21 = .ok (.aload_n 0, 1) := by decide +kernel
theorem dX11_read_22 : decode cX11_read 22 = .ok (.aload_n 0, 1) := by decide +kernel
theorem dX11_read_23 : decode cX11_read 23 = .ok (.getfield 25, 3) := by decide +kernel
theorem dX11_read_26 : decode cX11_read 26 = .ok (.getfield 98, 3) := by decide +kernel
theorem dX11_read_29 : decode cX11_read 29 = .ok (.putfield 101, 3) := by decide +kernel
theorem dX11_read_32 : decode cX11_read 32 = .ok (.aload_n 0, 1) := by decide +kernel
theorem dX11_read_33 : decode cX11_read 33 = .ok (.iload_n 1, 1) := by decide +kernel
theorem dX11_read_34 : decode cX11_read 34 = .ok (.ifCond .eq 7, 3) := by decide +kernel
theorem dX11_read_41 : decode cX11_read 41 = .ok (.aload_n 0, 1) := by decide +kernel
theorem dX11_read_42 : decode cX11_read 42 = .ok (.getfield 25, 3) := by decide +kernel
theorem dX11_read_45 : decode cX11_read 45 = .ok (.getfield 104, 3) := by decide +kernel
theorem dX11_read_48 : decode cX11_read 48 = .ok (.putfield 43, 3) := by decide +kernel
theorem dX11_read_51 : decode cX11_read 51 = .ok (.iload_n 1, 1) := by decide +kernel
theorem dX11_read_52 : decode cX11_read 52 = .ok (.ifCond .ne 5, 3) := by decide +kernel
theorem dX11_read_55 : decode cX11_read 55 = .ok (.iconst (-1), 1) := by decide +kernel
theorem dX11_read_56 : decode cX11_read 56 = .ok (.ireturn, 1) := by decide +kernel
theorem dX11_read_37 : decode cX11_read 37 = .ok (.iconst (-1), 1) := by decide +kernel
theorem dX11_read_38 : decode cX11_read 38 = .ok (.goto 10, 3) := by decide +kernel
theorem dX11_read_57 : decode cX11_read 57 = .ok (.aload_n 0, 1) := by decide +kernel
theorem dX11_read_58 : decode cX11_read 58 = .ok (.aload_n 0, 1) := by decide +kernel
theorem dX11_read_59 : decode cX11_read 59 = .ok (.getfield 25, 3) := by decide +kernel
theorem dX11_read_62 : decode cX11_read 62 = .ok (.getfield 107, 3) := by decide +kernel
theorem dX11_read_65 : decode cX11_read 65 = .ok (.bipush 6, 2) := by decide +kernel
theorem dX11_read_67 : decode cX11_read 67 = .ok (.invokestatic 110, 3) := by decide +kernel
theorem dX11_read_70 : decode cX11_read 70 = .ok (.putfield 116, 3) := by decide +kernel
theorem dX11_read_73 : decode cX11_read 73 = .ok (.iconst 0, 1) := by decide +kernel
theorem dX11_read_74 : decode cX11_read 74 = .ok (.istore_n 2, 1) := by decide +kernel
theorem dX11_read_75 : decode cX11_read 75 = .ok (.iload_n 2, 1) := by decide +kernel
theorem dX11_read_76 : decode cX11_read 76 = .ok (.aload_n 0, 1) := by decide +kernel
theorem dX11_read_77 : decode cX11_read 77 = .ok (.getfield 116, 3) := by decide +kernel
theorem dX11_read_80 : decode cX11_read 80 = .ok (.if_icmp .ge 14, 3) := by decide +kernel
theorem dX11_read_83 : decode cX11_read 83 = .ok (.aload_n 0, 1) := by decide +kernel
theorem dX11_read_84 : decode cX11_read 84 = .ok (.iload_n 2, 1) := by decide +kernel
theorem dX11_read_85 : decode cX11_read 85 = .ok (.invokevirtual 117, 3) := by decide +kernel
theorem dX11_read_88 : decode cX11_read 88 = .ok (.iinc 2 1, 3) := by decide +kernel
theorem dX11_read_91 : decode cX11_read 91 = .ok (.goto (-16), 3) := by decide +kernel
set_option maxRecDepth 20000 in
theorem l_X11_read_75 (d : Nat) {T0 : CT} {σ0 : MS} {a : Nat} {post : Option Value → CT → MS → Prop} (hw0 : WT T0 σ0) (hx_94 : ∀ (T : CT) (i2 : Int) (σ : MS) , (GT T0 T) → (WT T σ) → (FrC T0 [5, 6, 7, 8, 9, 10] σ0 σ) → (OB T a 11) → (0 ≤ i2 ∧ i2 ≤ 2147483647) → Tn (d + 80) m_X11_read 94 T σ [(0, .ref a), (2, .int (iI i2))] [] post) : ∀ (n : Nat) (T : CT) (i2 : Int) (σ : MS) , (GT T0 T) → (WT T σ) → (FrC T0 [5, 6, 7, 8, 9, 10] σ0 σ) → (OB T a 11) → (0 ≤ i2 ∧ i2 ≤ 2147483647) → (2147483700 - i2).toNat = n → Tn (d + 80) m_X11_read 75 T σ [(0, .ref a), (2, .int (iI i2))] [] post := by
  intro n
  induction n using Nat.strongRecOn with
  | _ n ih =>
    intro T i2 σ hG hw hF h_a r_i2 hm
    refine tn_iload_n dX11_read_75 rfl 1 rfl ?_
    refine tn_aload_n dX11_read_76 rfl 0 rfl ?_
    refine tn_getI (ci := 11) (i := 2) (n := 97) (t := σ.2.1 97 a) dX11_read_77 rfl lay_11 (by decide) fl11_116 h_a rfl rfl (rfl) ?_
    have g1 : ((0 : Int) ≤ σ.2.1 97 a ∧ σ.2.1 97 a ≤ 6) := wf_97 hw h_a
    refine tn_icmp_ge (tgt := 94) dX11_read_80 (by decide) ⟨by omega, by omega⟩ ⟨by omega, by omega⟩ (fun h2 => ?_) (fun h2 => ?_)
    · exact tn_sub [0, 1] rfl (hx_94 T (i2) σ hG hw (FrC.rfl.trans (FrC.sub hF (by decide))) h_a (by omega))
    · refine tn_aload_n dX11_read_83 rfl 0 rfl ?_
      refine tn_iload_n dX11_read_84 rfl 1 rfl ?_
      refine tn_callV (M := m_X11_read) (pc := 85) (ix := 117) (ci := 11) (M' := m_X11_takeMade) (As := [.int (iI i2)]) (rest := []) dX11_read_85 ok_X11_takeMade im_X11_takeMade se_X11_takeMade ml11_117 np_X11_takeMade rfl rfl h_a rfl (Nat.le_of_ble_eq_true rfl) (Nat.le_of_ble_eq_true rfl) rfl (k_X11_takeMade (d + 75) (T := T) (σ := σ) (a := a) (r := i2) h_a (by omega) hw ) (fun r3 T5 σ4 gt6 hp => ?_)
      obtain ⟨rfl, w8, F9⟩ := hp
      replace h_a : OB T5 a 11 := gt6.ob h_a
      show Tn _ _ 88 T5 σ4 [(0, .ref a), (2, .int (iI i2))] [] _
      refine tn_iinc (q0 := 1) (L' := [(2, .int (iI (i2 + 1))), (0, .ref a)]) dX11_read_88 rfl (by decide) rfl ?_
      refine tn_goto (tgt := 75) dX11_read_91 (by decide) ?_
      exact tn_sub [1, 0] rfl (ih _ (by omega) T5 (i2 + 1) σ4 (GT.trans hG gt6) w8 ((FrC.rfl.trans (FrC.sub hF (by decide))).trans (FrC.sub (FrC.old F9 hG) (by decide))) h_a (by omega) rfl)
theorem dX11_read_94 : decode cX11_read 94 = .ok (.aload_n 0, 1) := by decide +kernel
theorem dX11_read_95 : decode cX11_read 95 = .ok (.getfield 83, 3) := by decide +kernel
theorem dX11_read_98 : decode cX11_read 98 = .ok (.invokevirtual 120, 3) := by decide +kernel
theorem dX11_read_101 : decode cX11_read 101 = .ok (.aload_n 0, 1) := by decide +kernel
theorem dX11_read_102 : decode cX11_read 102 = .ok (.getfield 116, 3) := by decide +kernel
theorem dX11_read_105 : decode cX11_read 105 = .ok (.ireturn, 1) := by decide +kernel
set_option maxRecDepth 20000 in
theorem k_X11_read (d : Nat) {T : CT} {σ : MS} {a : Nat} (ha : OB T a 11) (hw : WT T σ) : Tn (d + 80) m_X11_read 0 T σ [(0, .ref a)] [] (fun ro T2 σ2 => ∃ v : Int, ro = some (.int (iI v)) ∧ WT T2 σ2 ∧ FrC T [5, 6, 7, 8, 9, 10, 35, 38, 42, 43, 44, 45, 46, 47, 50, 51, 56, 84, 85, 86, 87, 96, 97, 104, 105, 512, 516, 517, 518, 519, 520, 521, 522, 523] σ σ2 ∧ (-2147483648 ≤ v ∧ v ≤ 2147483647) ∧ (σ2.2.1 96 a = 0)) := by
  refine tn_aload_n dX11_read_0 rfl 0 rfl ?_
  obtain ⟨x1, hx2, hk3⟩ : ∃ x : Nat, σ.2.1 100 a = (x : Int) ∧ (T x).1 = 35 := wf_100 hw ha
  have hk3o : OB T x1 5 := ⟨by omega, by rw [hk3]; rfl, by omega⟩
  refine tn_getR (ci := 11) (i := 5) (n := 100) (x := x1) dX11_read_1 rfl lay_11 (by decide) fl11_25 ha rfl rfl (hx2) ?_
  refine tn_aload_n dX11_read_4 rfl 0 rfl ?_
  obtain ⟨x5, hx6, hk7, hl8⟩ : ∃ x : Nat, σ.2.1 95 a = (x : Int) ∧ AR T x 2 1200 1200 := wf_95 hw ha
  refine tn_getR (ci := 11) (i := 0) (n := 95) (x := x5) dX11_read_5 rfl lay_11 (by decide) fl11_9 ha rfl rfl (hx6) ?_
  refine tn_aload_n dX11_read_8 rfl 0 rfl ?_
  refine tn_getI (ci := 11) (i := 1) (n := 96) (t := σ.2.1 96 a) dX11_read_9 rfl lay_11 (by decide) fl11_87 ha rfl rfl (rfl) ?_
  have g9 : ((0 : Int) ≤ σ.2.1 96 a ∧ σ.2.1 96 a ≤ 1200) := wf_96 hw ha
  refine tn_callV (M := m_X11_read) (pc := 12) (ix := 94) (ci := 5) (M' := m_X5_take) (As := [.ref x5, .int (iI (σ.2.1 96 a))]) (rest := []) dX11_read_12 ok_X5_take im_X5_take se_X5_take ml11_94 np_X5_take rfl rfl hk3o rfl (Nat.le_of_ble_eq_true rfl) (Nat.le_of_ble_eq_true rfl) rfl (k_X5_take (d) (T := T) (σ := σ) (a := x1) (t := x5) (n := σ.2.1 96 a) hk3o hk7 (by omega) (by omega) hw (by omega)) (fun r10 T12 σ11 gt13 hp => ?_)
  obtain ⟨v15, rfl, w16, F17, f14⟩ := hp
  replace ha : OB T12 a 11 := gt13.ob ha
  show Tn _ _ 15 T12 σ11 [(0, .ref a)] [.int (iI v15)] _
  refine tn_istore_n (L' := [(1, .int (iI v15)), (0, .ref a)]) dX11_read_15 rfl (by decide) rfl ?_
  refine tn_aload_n dX11_read_16 rfl 1 rfl ?_
  refine tn_iconst dX11_read_17 ?_
  refine tn_putV (ci := 11) (i := 1) (n := 96) (r := false) (v := 0) tyX11 tyX11_ok nmX11 dX11_read_18 rfl lay_11 (by decide) fl11_87 rfl (tyX11_ok 1 (by decide)) rfl rfl rfl ha rfl rfl ?_
  refine tn_aload_n dX11_read_21 rfl 1 rfl ?_
  refine tn_aload_n dX11_read_22 rfl 1 rfl ?_
  obtain ⟨x18, hx19, hk20⟩ : ∃ x : Nat, σ11.2.1 100 a = (x : Int) ∧ (T12 x).1 = 35 := wf_100 w16 ha
  have hk20o : OB T12 x18 5 := ⟨by omega, by rw [hk20]; rfl, by omega⟩
  refine tn_getR (ci := 11) (i := 5) (n := 100) (x := x18) dX11_read_23 rfl lay_11 (by decide) fl11_25 ha rfl rfl (rc_o (by decide) (hx19)) ?_
  refine tn_getI (ci := 5) (i := 10) (n := 43) (t := σ11.2.1 43 x18) dX11_read_26 rfl lay_5 (by decide) fl11_98 hk20o rfl rfl (rc_o (by decide) (rfl)) ?_
  have g22 : ((-2147483648 : Int) ≤ σ11.2.1 43 x18 ∧ σ11.2.1 43 x18 ≤ 2147483647) := wf_43 w16 hk20o
  refine tn_putV (ci := 11) (i := 9) (n := 104) (r := false) (v := σ11.2.1 43 x18) tyX11 tyX11_ok nmX11 dX11_read_29 rfl lay_11 (by decide) fl11_101 rfl (tyX11_ok 9 (by decide)) rfl rfl rfl ha rfl rfl ?_
  refine tn_aload_n dX11_read_32 rfl 1 rfl ?_
  refine tn_iload_n dX11_read_33 rfl 0 rfl ?_
  refine tn_if_eq (tgt := 41) dX11_read_34 (by decide) ⟨by omega, by omega⟩ (fun h23 => ?_) (fun h23 => ?_)
  · refine tn_aload_n dX11_read_41 rfl 1 rfl ?_
    refine tn_getR (ci := 11) (i := 5) (n := 100) (x := x18) dX11_read_42 rfl lay_11 (by decide) fl11_25 ha rfl rfl (rc_o (by decide) (rc_o (by decide) (hx19))) ?_
    refine tn_getI (ci := 5) (i := 11) (n := 44) (t := σ11.2.1 44 x18) dX11_read_45 rfl lay_5 (by decide) fl11_104 hk20o rfl rfl (rc_o (by decide) (rc_o (by decide) (rfl))) ?_
    have g24 : ((-2147483648 : Int) ≤ σ11.2.1 44 x18 ∧ σ11.2.1 44 x18 ≤ 2147483647) := wf_44 w16 hk20o
    refine tn_putV (ci := 11) (i := 10) (n := 105) (r := false) (v := σ11.2.1 44 x18) tyX11 tyX11_ok nmX11 dX11_read_48 rfl lay_11 (by decide) fl11_43 rfl (tyX11_ok 10 (by decide)) rfl rfl rfl ha rfl rfl ?_
    refine tn_iload_n dX11_read_51 rfl 0 rfl ?_
    refine tn_if_ne (tgt := 57) dX11_read_52 (by decide) ⟨by omega, by omega⟩ (fun h25 => absurd h25 (by omega)) (fun h25 => ?_)
    refine tn_iconst dX11_read_55 ?_
    have q26 : (sA 105 a (σ11.2.1 44 x18) (sA 104 a (σ11.2.1 43 x18) (sA 96 a (0) σ11))).2.1 96 a = 0 := rc_o (by decide) (rc_o (by decide) (ra_eq))
    exact tn_iret rfl dX11_read_56 ⟨_, rfl, (((w16.put (by decide) (by decide) (fo_96 (by omega))).put (by decide) (by decide) (fo_104 (by omega))).put (by decide) (by decide) (fo_105 (by omega))), ((((FrC.rfl.trans (FrC.sub F17 (by decide))).put (by decide) (by decide)).put (by decide) (by decide)).put (by decide) (by decide)), by omega, by omega⟩
  · refine tn_iconst dX11_read_37 ?_
    refine tn_goto (tgt := 48) dX11_read_38 (by decide) ?_
    refine tn_putV (ci := 11) (i := 10) (n := 105) (r := false) (v := -1) tyX11 tyX11_ok nmX11 dX11_read_48 rfl lay_11 (by decide) fl11_43 rfl (tyX11_ok 10 (by decide)) rfl rfl rfl ha rfl rfl ?_
    refine tn_iload_n dX11_read_51 rfl 0 rfl ?_
    refine tn_if_ne (tgt := 57) dX11_read_52 (by decide) ⟨by omega, by omega⟩ (fun h27 => ?_) (fun h27 => absurd h27 (by omega))
    refine tn_aload_n dX11_read_57 rfl 1 rfl ?_
    refine tn_aload_n dX11_read_58 rfl 1 rfl ?_
    refine tn_getR (ci := 11) (i := 5) (n := 100) (x := x18) dX11_read_59 rfl lay_11 (by decide) fl11_25 ha rfl rfl (rc_o (by decide) (rc_o (by decide) (rc_o (by decide) (hx19)))) ?_
    refine tn_getI (ci := 5) (i := 5) (n := 38) (t := σ11.2.1 38 x18) dX11_read_62 rfl lay_5 (by decide) fl11_107 hk20o rfl rfl (rc_o (by decide) (rc_o (by decide) (rc_o (by decide) (rfl)))) ?_
    have g28 : ((0 : Int) ≤ σ11.2.1 38 x18 ∧ σ11.2.1 38 x18 ≤ 256) := wf_38 w16 hk20o
    refine tn_bipush dX11_read_65 (by decide) ?_
    refine tn_mmin (x := σ11.2.1 38 x18) (y := 6) dX11_read_67 mlm11_110 stM_min iniM cdM_min (by omega) (Nat.le_of_ble_eq_true rfl) ⟨by omega, by omega⟩ ⟨by omega, by omega⟩ (fun z29 g30 => ?_)
    refine tn_putV (ci := 11) (i := 2) (n := 97) (r := false) (v := z29) tyX11 tyX11_ok nmX11 dX11_read_70 rfl lay_11 (by decide) fl11_116 rfl (tyX11_ok 2 (by decide)) rfl rfl rfl ha rfl rfl ?_
    refine tn_iconst dX11_read_73 ?_
    refine tn_istore_n (L' := [(2, .int (iI 0)), (1, .int (iI v15)), (0, .ref a)]) dX11_read_74 rfl (by decide) rfl ?_
    refine tn_sub [2, 0] rfl (l_X11_read_75 (d) (σ0 := (sA 97 a (z29) (sA 105 a (-1) (sA 104 a (σ11.2.1 43 x18) (sA 96 a (0) σ11))))) (T0 := T12) (a := a) ((((w16.put (by decide) (by decide) (fo_96 (by omega))).put (by decide) (by decide) (fo_104 (by omega))).put (by decide) (by decide) (fo_105 (by omega))).put (by decide) (by decide) (fo_97 (by omega))) (fun T33 i231 σ32 gt34 w35 F36 q37 r38 => ?_) _ T12 (0) (sA 97 a (z29) (sA 105 a (-1) (sA 104 a (σ11.2.1 43 x18) (sA 96 a (0) σ11)))) GT.rfl ((((w16.put (by decide) (by decide) (fo_96 (by omega))).put (by decide) (by decide) (fo_104 (by omega))).put (by decide) (by decide) (fo_105 (by omega))).put (by decide) (by decide) (fo_97 (by omega))) FrC.rfl ha (by omega) rfl)
    show Tn _ _ 94 T33 σ32 [(0, .ref a), (2, .int (iI i231))] [] _
    refine tn_aload_n dX11_read_94 rfl 0 rfl ?_
    obtain ⟨x39, hx40, hk41⟩ : ∃ x : Nat, σ32.2.1 103 a = (x : Int) ∧ (T33 x).1 = 37 := wf_103 w35 q37
    have hk41o : OB T33 x39 7 := ⟨by omega, by rw [hk41]; rfl, by omega⟩
    refine tn_getR (ci := 11) (i := 8) (n := 103) (x := x39) dX11_read_95 rfl lay_11 (by decide) fl11_83 q37 rfl rfl (hx40) ?_
    refine tn_callV (M := m_X11_read) (pc := 98) (ix := 120) (ci := 7) (M' := m_X7_forget) (As := []) (rest := []) dX11_read_98 ok_X7_forget im_X7_forget se_X7_forget ml11_120 np_X7_forget rfl rfl hk41o rfl (Nat.le_of_ble_eq_true rfl) (Nat.le_of_ble_eq_true rfl) rfl (k_X7_forget (d + 78) (T := T33) (σ := σ32) (a := x39) hk41o w35 ) (fun r43 T45 σ44 gt46 hp => ?_)
    obtain ⟨rfl, rfl, w48, F49⟩ := hp
    clear gt46
    show Tn _ _ 101 T33 σ44 [(0, .ref a), (2, .int (iI i231))] [] _
    refine tn_aload_n dX11_read_101 rfl 0 rfl ?_
    refine tn_getI (ci := 11) (i := 2) (n := 97) (t := σ32.2.1 97 a) dX11_read_102 rfl lay_11 (by decide) fl11_116 q37 rfl rfl (rc_F F49 (Or.inl (by decide)) (by decide) (rfl)) ?_
    have g50 : ((0 : Int) ≤ σ32.2.1 97 a ∧ σ32.2.1 97 a ≤ 6) := wf_97 w35 q37
    have q51 : σ44.2.1 96 a = 0 := rc_F F49 (Or.inl (by decide)) (by decide) (rc_F F36 (Or.inl (by decide)) (by decide) (rc_o (by decide) (rc_o (by decide) (rc_o (by decide) (ra_eq)))))
    exact tn_iret rfl dX11_read_105 ⟨_, rfl, w48, (((((((FrC.rfl.trans (FrC.sub F17 (by decide))).put (by decide) (by decide)).put (by decide) (by decide)).put (by decide) (by decide)).put (by decide) (by decide)).trans (FrC.sub (FrC.old F36 gt13) (by decide))).trans (FrC.sub (FrC.old F49 (GT.trans gt13 gt34)) (by decide))), by omega, by omega⟩
