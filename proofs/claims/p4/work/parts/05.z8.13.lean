theorem cd_X10_init : Cond.code yX10_init cX10_init 1 none ∈ pWW := pw2 (List.mem_of_getElem? (i := 3) rfl) rfl
abbrev m_X10_init : MT := (yX10_init, cX10_init, 1, none)
theorem ok_X10_init : pOk m_X10_init := ⟨⟨cd_X10_init, ini_10⟩, by decide +kernel, ⟨by decide +kernel, by decide +kernel⟩, Nat.le_of_ble_eq_true rfl⟩
theorem np_X10_init : (parseMethodDescriptor yX10_init.desc).map (fun d => d.parameters.length) = some 0 := by decide +kernel
theorem im_X10_init : Cond.instanceMethod yX10_init ∈ pWW := pw2 (List.mem_of_getElem? (i := 2) rfl) rfl
theorem mlo10_3 : Cond.methodLink RX10 3 objectInit ∈ pWW := pw2 (List.mem_of_getElem? (i := 4) rfl) rfl
theorem cl10_9 : Cond.classLink RX10 9 "[I" ∈ pWW := pw2 (List.mem_of_getElem? (i := 5) rfl) rfl
theorem dX10_init_0 : decode cX10_init 0 = .ok (.aload_n 0, 1) := by decide +kernel
theorem dX10_init_1 : decode cX10_init 1 = .ok (.invokespecial 3, 3) := by decide +kernel
theorem dX10_init_4 : decode cX10_init 4 = .ok (.aload_n 0, 1) := by decide +kernel
theorem dX10_init_5 : decode cX10_init 5 = .ok (.bipush 6, 2) := by decide +kernel
theorem dX10_init_7 : decode cX10_init 7 = .ok (.anewarray 9, 3) := by decide +kernel
theorem dX10_init_10 : decode cX10_init 10 = .ok (.putfield 11, 3) := by decide +kernel
theorem dX10_init_13 : decode cX10_init 13 = .ok (.aload_n 0, 1) := by decide +kernel
theorem dX10_init_14 : decode cX10_init 14 = .ok (.bipush 6, 2) := by decide +kernel
theorem dX10_init_16 : decode cX10_init 16 = .ok (.newarray .int, 2) := by decide +kernel
theorem dX10_init_18 : decode cX10_init 18 = .ok (.putfield 17, 3) := by decide +kernel
theorem dX10_init_21 : decode cX10_init 21 = .ok (.aload_n 0, 1) := by decide +kernel
theorem dX10_init_22 : decode cX10_init 22 = .ok (.sipush 200, 3) := by decide +kernel
theorem dX10_init_25 : decode cX10_init 25 = .ok (.newarray .int, 2) := by decide +kernel
theorem dX10_init_27 : decode cX10_init 27 = .ok (.putfield 20, 3) := by decide +kernel
theorem dX10_init_30 : decode cX10_init 30 = .ok (.aload_n 0, 1) := by decide +kernel
theorem dX10_init_31 : decode cX10_init 31 = .ok (.sipush 145, 3) := by decide +kernel
theorem dX10_init_34 : decode cX10_init 34 = .ok (.newarray .int, 2) := by decide +kernel
theorem dX10_init_36 : decode cX10_init 36 = .ok (.putfield 23, 3) := by decide +kernel
theorem dX10_init_39 : decode cX10_init 39 = .ok (.return_, 1) := by decide +kernel
set_option maxRecDepth 20000 in
theorem kc_X10_init_40 (d : Nat) {T : CT} {σ : MS} {a : Nat} {K : List Nat} (hraw : T a = (80 + 10, 0)) (hb : WTn T σ) (hcd : CD K T) (hdf : ∀ j, j < 200 → σ.2.1 j (a : Int) = dfF j) (h9 : σ.2.1 900 = fun _ => -1) (h7 : ∀ c, (T c).1 ≠ 7) : Tn (d + 1) m_X10_init 0 T σ [(0, .ref a)] [] (fun ro T2 σ2 => ro = none ∧ T2 a = (40, 0) ∧ WTn T2 σ2 ∧ CD K T2 ∧ KPx a T σ T2 σ2 ∧ σ2.1 0 = σ.1 0 + (357 : Nat) ∧ σ2.1 1 = σ.1 1 + (4 : Nat) ∧ NX 41 a T T2) := by
  have cx0 : CX a 10 K 0 0 T σ T σ := CX.begin hraw hb hcd
  have nx41 : NX 41 a T T := NX.begin (by decide)
  have f88 : σ.2.1 88 a = -1 := (hdf 88 (by decide)).trans (by decide)
  have f89 : σ.2.1 89 a = -1 := (hdf 89 (by decide)).trans (by decide)
  have f90 : σ.2.1 90 a = -1 := (hdf 90 (by decide)).trans (by decide)
  have f91 : σ.2.1 91 a = -1 := (hdf 91 (by decide)).trans (by decide)
  have f92 : σ.2.1 92 a = -1 := (hdf 92 (by decide)).trans (by decide)
  have f93 : σ.2.1 93 a = 0 := (hdf 93 (by decide)).trans (by decide)
  have f94 : σ.2.1 94 a = 0 := (hdf 94 (by decide)).trans (by decide)
  refine tn_aload_n dX10_init_0 rfl 0 rfl ?_
  refine tn_objInit dX10_init_1 mlo10_3 oiI oiC (by omega) (Nat.le_of_ble_eq_true rfl) ?_
  refine tn_aload_n dX10_init_4 rfl 0 rfl ?_
  refine tn_bipush dX10_init_5 (by decide) ?_
  refine tn_anM (N := 6) h7 dX10_init_7 cl10_9 rfl (by decide) (fun x1 hx2 => ?_)
  have ne3 := cx0.ne hx2
  obtain ⟨T4, σ5, eT6, eS7, cx8, f88, f89, f90, f91, f92, f93, f94, o9, nx41⟩ : ∃ (T4 : CT) (σ5 : MS), T4 = (tT T x1 7 6) ∧ σ5 = (rowS 900 (fun _ => -1) (gh 6 σ)) ∧ CX a 10 K 6 1 T σ T4 σ5 ∧ (σ5.2.1 88 a = -1) ∧ (σ5.2.1 89 a = -1) ∧ (σ5.2.1 90 a = -1) ∧ (σ5.2.1 91 a = -1) ∧ (σ5.2.1 92 a = -1) ∧ (σ5.2.1 93 a = 0) ∧ (σ5.2.1 94 a = 0) ∧ (T4 x1 = (7, 6)) ∧ NX 41 a T T4 := ⟨_, _, rfl, rfl, (cx0.newM hx2 h9 h7), (by rw [rowS_ne (by omega)]; exact f88), (by rw [rowS_ne (by omega)]; exact f89), (by rw [rowS_ne (by omega)]; exact f90), (by rw [rowS_ne (by omega)]; exact f91), (by rw [rowS_ne (by omega)]; exact f92), (by rw [rowS_ne (by omega)]; exact f93), (by rw [rowS_ne (by omega)]; exact f94), tT_eq, (nx41.mk9 (by decide))⟩
  rw [← eT6]
  rw [← eS7]
  refine tn_putFr (ci := 10) (i := 0) (n := 88) (r := true) (v := (x1 : Int)) tyX10 tyX10_ok nmX10 dX10_init_10 rfl lay_10 (by decide) fl10_11 rfl rfl rfl (tyX10_ok 0 (by decide)) (vl_ref rfl).symm rfl rfl (cx8.r (by decide)) rfl rfl ?_
  obtain ⟨σ11, eS13, cx14, f88, f89, f90, f91, f92, f93, f94⟩ : ∃ (σ11 : MS), σ11 = (sA 88 a ((x1 : Int)) σ5) ∧ CX a 10 K 6 1 T σ T4 σ11 ∧ (σ11.2.1 88 a = (x1 : Int)) ∧ (σ11.2.1 89 a = -1) ∧ (σ11.2.1 90 a = -1) ∧ (σ11.2.1 91 a = -1) ∧ (σ11.2.1 92 a = -1) ∧ (σ11.2.1 93 a = 0) ∧ (σ11.2.1 94 a = 0) := ⟨_, rfl, (cx8.put (by decide)), ra_eq, (rc_o (by decide) f89), (rc_o (by decide) f90), (rc_o (by decide) f91), (rc_o (by decide) f92), (rc_o (by decide) f93), (rc_o (by decide) f94)⟩
  rw [← eS13]
  refine tn_aload_n dX10_init_13 rfl 0 rfl ?_
  refine tn_bipush dX10_init_14 (by decide) ?_
  refine tn_newI (N := 6) (k := 1) dX10_init_16 arC_int (by decide) rfl (by decide) (fun x15 hx16 => ?_)
  have ne17 := cx14.ne hx16
  obtain ⟨T18, σ19, eT20, eS21, cx22, f88, f89, f90, f91, f92, f93, f94, o23, o24, nx41⟩ : ∃ (T18 : CT) (σ19 : MS), T18 = (tT T4 x15 1 6) ∧ σ19 = (rowS (1000 + x15) (fun _ => 0) (gh 6 σ11)) ∧ CX a 10 K 12 2 T σ T18 σ19 ∧ (σ19.2.1 88 a = (x1 : Int)) ∧ (σ19.2.1 89 a = -1) ∧ (σ19.2.1 90 a = -1) ∧ (σ19.2.1 91 a = -1) ∧ (σ19.2.1 92 a = -1) ∧ (σ19.2.1 93 a = 0) ∧ (σ19.2.1 94 a = 0) ∧ (T18 x1 = (7, 6)) ∧ (T18 x15 = (1, 6)) ∧ NX 41 a T T18 := ⟨_, _, rfl, rfl, (cx14.newI hx16 (by decide)), (by rw [rowS_ne (by omega)]; exact f88), (by rw [rowS_ne (by omega)]; exact f89), (by rw [rowS_ne (by omega)]; exact f90), (by rw [rowS_ne (by omega)]; exact f91), (by rw [rowS_ne (by omega)]; exact f92), (by rw [rowS_ne (by omega)]; exact f93), (by rw [rowS_ne (by omega)]; exact f94), (tk_keep o9 (by decide) hx16), tT_eq, (nx41.mk9 (by decide))⟩
  rw [← eT20]
  rw [← eS21]
  refine tn_putFr (ci := 10) (i := 1) (n := 89) (r := true) (v := (x15 : Int)) tyX10 tyX10_ok nmX10 dX10_init_18 rfl lay_10 (by decide) fl10_17 rfl rfl rfl (tyX10_ok 1 (by decide)) (vl_ref rfl).symm rfl rfl (cx22.r (by decide)) rfl rfl ?_
  obtain ⟨σ26, eS28, cx29, f88, f89, f90, f91, f92, f93, f94⟩ : ∃ (σ26 : MS), σ26 = (sA 89 a ((x15 : Int)) σ19) ∧ CX a 10 K 12 2 T σ T18 σ26 ∧ (σ26.2.1 88 a = (x1 : Int)) ∧ (σ26.2.1 89 a = (x15 : Int)) ∧ (σ26.2.1 90 a = -1) ∧ (σ26.2.1 91 a = -1) ∧ (σ26.2.1 92 a = -1) ∧ (σ26.2.1 93 a = 0) ∧ (σ26.2.1 94 a = 0) := ⟨_, rfl, (cx22.put (by decide)), (rc_o (by decide) f88), ra_eq, (rc_o (by decide) f90), (rc_o (by decide) f91), (rc_o (by decide) f92), (rc_o (by decide) f93), (rc_o (by decide) f94)⟩
  rw [← eS28]
  refine tn_aload_n dX10_init_21 rfl 0 rfl ?_
  refine tn_sipush dX10_init_22 (by decide) ?_
  refine tn_newI (N := 200) (k := 1) dX10_init_25 arC_int (by decide) rfl (by decide) (fun x30 hx31 => ?_)
  have ne32 := cx29.ne hx31
  obtain ⟨T33, σ34, eT35, eS36, cx37, f88, f89, f90, f91, f92, f93, f94, o38, o39, o40, nx41⟩ : ∃ (T33 : CT) (σ34 : MS), T33 = (tT T18 x30 1 200) ∧ σ34 = (rowS (1000 + x30) (fun _ => 0) (gh 200 σ26)) ∧ CX a 10 K 212 3 T σ T33 σ34 ∧ (σ34.2.1 88 a = (x1 : Int)) ∧ (σ34.2.1 89 a = (x15 : Int)) ∧ (σ34.2.1 90 a = -1) ∧ (σ34.2.1 91 a = -1) ∧ (σ34.2.1 92 a = -1) ∧ (σ34.2.1 93 a = 0) ∧ (σ34.2.1 94 a = 0) ∧ (T33 x1 = (7, 6)) ∧ (T33 x15 = (1, 6)) ∧ (T33 x30 = (1, 200)) ∧ NX 41 a T T33 := ⟨_, _, rfl, rfl, (cx29.newI hx31 (by decide)), (by rw [rowS_ne (by omega)]; exact f88), (by rw [rowS_ne (by omega)]; exact f89), (by rw [rowS_ne (by omega)]; exact f90), (by rw [rowS_ne (by omega)]; exact f91), (by rw [rowS_ne (by omega)]; exact f92), (by rw [rowS_ne (by omega)]; exact f93), (by rw [rowS_ne (by omega)]; exact f94), (tk_keep o23 (by decide) hx31), (tk_keep o24 (by decide) hx31), tT_eq, (nx41.mk9 (by decide))⟩
  rw [← eT35]
  rw [← eS36]
  refine tn_putFr (ci := 10) (i := 2) (n := 90) (r := true) (v := (x30 : Int)) tyX10 tyX10_ok nmX10 dX10_init_27 rfl lay_10 (by decide) fl10_20 rfl rfl rfl (tyX10_ok 2 (by decide)) (vl_ref rfl).symm rfl rfl (cx37.r (by decide)) rfl rfl ?_
  obtain ⟨σ42, eS44, cx45, f88, f89, f90, f91, f92, f93, f94⟩ : ∃ (σ42 : MS), σ42 = (sA 90 a ((x30 : Int)) σ34) ∧ CX a 10 K 212 3 T σ T33 σ42 ∧ (σ42.2.1 88 a = (x1 : Int)) ∧ (σ42.2.1 89 a = (x15 : Int)) ∧ (σ42.2.1 90 a = (x30 : Int)) ∧ (σ42.2.1 91 a = -1) ∧ (σ42.2.1 92 a = -1) ∧ (σ42.2.1 93 a = 0) ∧ (σ42.2.1 94 a = 0) := ⟨_, rfl, (cx37.put (by decide)), (rc_o (by decide) f88), (rc_o (by decide) f89), ra_eq, (rc_o (by decide) f91), (rc_o (by decide) f92), (rc_o (by decide) f93), (rc_o (by decide) f94)⟩
  rw [← eS44]
  refine tn_aload_n dX10_init_30 rfl 0 rfl ?_
  refine tn_sipush dX10_init_31 (by decide) ?_
  refine tn_newI (N := 145) (k := 1) dX10_init_34 arC_int (by decide) rfl (by decide) (fun x46 hx47 => ?_)
  have ne48 := cx45.ne hx47
  obtain ⟨T49, σ50, eT51, eS52, cx53, f88, f89, f90, f91, f92, f93, f94, o54, o55, o56, o57, nx41⟩ : ∃ (T49 : CT) (σ50 : MS), T49 = (tT T33 x46 1 145) ∧ σ50 = (rowS (1000 + x46) (fun _ => 0) (gh 145 σ42)) ∧ CX a 10 K 357 4 T σ T49 σ50 ∧ (σ50.2.1 88 a = (x1 : Int)) ∧ (σ50.2.1 89 a = (x15 : Int)) ∧ (σ50.2.1 90 a = (x30 : Int)) ∧ (σ50.2.1 91 a = -1) ∧ (σ50.2.1 92 a = -1) ∧ (σ50.2.1 93 a = 0) ∧ (σ50.2.1 94 a = 0) ∧ (T49 x1 = (7, 6)) ∧ (T49 x15 = (1, 6)) ∧ (T49 x30 = (1, 200)) ∧ (T49 x46 = (1, 145)) ∧ NX 41 a T T49 := ⟨_, _, rfl, rfl, (cx45.newI hx47 (by decide)), (by rw [rowS_ne (by omega)]; exact f88), (by rw [rowS_ne (by omega)]; exact f89), (by rw [rowS_ne (by omega)]; exact f90), (by rw [rowS_ne (by omega)]; exact f91), (by rw [rowS_ne (by omega)]; exact f92), (by rw [rowS_ne (by omega)]; exact f93), (by rw [rowS_ne (by omega)]; exact f94), (tk_keep o38 (by decide) hx47), (tk_keep o39 (by decide) hx47), (tk_keep o40 (by decide) hx47), tT_eq, (nx41.mk9 (by decide))⟩
  rw [← eT51]
  rw [← eS52]
  refine tn_putFr (ci := 10) (i := 3) (n := 91) (r := true) (v := (x46 : Int)) tyX10 tyX10_ok nmX10 dX10_init_36 rfl lay_10 (by decide) fl10_23 rfl rfl rfl (tyX10_ok 3 (by decide)) (vl_ref rfl).symm rfl rfl (cx53.r (by decide)) rfl rfl ?_
  obtain ⟨σ59, eS61, cx62, f88, f89, f90, f91, f92, f93, f94⟩ : ∃ (σ59 : MS), σ59 = (sA 91 a ((x46 : Int)) σ50) ∧ CX a 10 K 357 4 T σ T49 σ59 ∧ (σ59.2.1 88 a = (x1 : Int)) ∧ (σ59.2.1 89 a = (x15 : Int)) ∧ (σ59.2.1 90 a = (x30 : Int)) ∧ (σ59.2.1 91 a = (x46 : Int)) ∧ (σ59.2.1 92 a = -1) ∧ (σ59.2.1 93 a = 0) ∧ (σ59.2.1 94 a = 0) := ⟨_, rfl, (cx53.put (by decide)), (rc_o (by decide) f88), (rc_o (by decide) f89), (rc_o (by decide) f90), ra_eq, (rc_o (by decide) f92), (rc_o (by decide) f93), (rc_o (by decide) f94)⟩
  rw [← eS61]
  refine tn_tag (ci := 10) (k := 40) (by decide) cx62.1 (by decide) ?_
  have hf9 : ∀ m, m < 111 → cls m = 10 → FO m 40 T49 (σ59.2.1 m a) := fun m hm9 hc9 => by
    have q9 := clsR_10 m hm9 hc9
    have q8 : m = 88 ∨ m = 89 ∨ m = 90 ∨ m = 91 ∨ m = 92 ∨ m = 93 ∨ m = 94 := by omega
    rcases q8 with q8 | q8 | q8 | q8 | q8 | q8 | q8
    · subst q8; rw [f88]; exact fo_88 (⟨_, rfl, AR.of o54 (by decide) (by decide)⟩)
    · subst q8; rw [f89]; exact fo_89 (⟨_, rfl, AR.of o55 (by decide) (by decide)⟩)
    · subst q8; rw [f90]; exact fo_90 (⟨_, rfl, AR.of o56 (by decide) (by decide)⟩)
    · subst q8; rw [f91]; exact fo_91 (⟨_, rfl, AR.of o57 (by decide) (by decide)⟩)
    · subst q8; rw [f92]; exact fo_92 (Or.inl (by decide))
    · subst q8; rw [f93]; exact fo_93 (by decide)
    · subst q8; rw [f94]; exact fo_94 (by decide)
  exact tn_vret rfl dX10_init_39 ⟨rfl, tT_eq, cx62.2.1.tag cx62.1 (by decide) hf9 (fun h => absurd h (by decide)), cx62.2.2.1.tag (by rw [cx62.1]; decide) (by decide), cx62.2.2.2.1.tag, cx62.2.2.2.2.1, cx62.2.2.2.2.2, nx41.tag⟩
