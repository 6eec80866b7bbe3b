theorem cd_X3_init : Cond.code yX3_init cX3_init 1 none ∈ pWW := pw1 (List.mem_of_getElem? (i := 218) rfl) rfl
abbrev m_X3_init : MT := (yX3_init, cX3_init, 1, none)
theorem ok_X3_init : pOk m_X3_init := ⟨⟨cd_X3_init, ini_3⟩, by decide +kernel, ⟨by decide +kernel, by decide +kernel⟩, Nat.le_of_ble_eq_true rfl⟩
theorem np_X3_init : (parseMethodDescriptor yX3_init.desc).map (fun d => d.parameters.length) = some 0 := by decide +kernel
theorem im_X3_init : Cond.instanceMethod yX3_init ∈ pWW := pw1 (List.mem_of_getElem? (i := 217) rfl) rfl
theorem mlo3_3 : Cond.methodLink RX3 3 objectInit ∈ pWW := pw1 (List.mem_of_getElem? (i := 219) rfl) rfl
theorem dX3_init_0 : decode cX3_init 0 = .ok (.aload_n 0, 1) := by decide +kernel
theorem dX3_init_1 : decode cX3_init 1 = .ok (.invokespecial 3, 3) := by decide +kernel
theorem dX3_init_4 : decode cX3_init 4 = .ok (.aload_n 0, 1) := by decide +kernel
theorem dX3_init_5 : decode cX3_init 5 = .ok (.sipush 603, 3) := by decide +kernel
theorem dX3_init_8 : decode cX3_init 8 = .ok (.newarray .long, 2) := by decide +kernel
theorem dX3_init_10 : decode cX3_init 10 = .ok (.putfield 9, 3) := by decide +kernel
theorem dX3_init_13 : decode cX3_init 13 = .ok (.aload_n 0, 1) := by decide +kernel
theorem dX3_init_14 : decode cX3_init 14 = .ok (.iconst 3, 1) := by decide +kernel
theorem dX3_init_15 : decode cX3_init 15 = .ok (.newarray .long, 2) := by decide +kernel
theorem dX3_init_17 : decode cX3_init 17 = .ok (.putfield 15, 3) := by decide +kernel
theorem dX3_init_20 : decode cX3_init 20 = .ok (.aload_n 0, 1) := by decide +kernel
theorem dX3_init_21 : decode cX3_init 21 = .ok (.sipush 201, 3) := by decide +kernel
theorem dX3_init_24 : decode cX3_init 24 = .ok (.newarray .int, 2) := by decide +kernel
theorem dX3_init_26 : decode cX3_init 26 = .ok (.putfield 18, 3) := by decide +kernel
theorem dX3_init_29 : decode cX3_init 29 = .ok (.aload_n 0, 1) := by decide +kernel
theorem dX3_init_30 : decode cX3_init 30 = .ok (.sipush 201, 3) := by decide +kernel
theorem dX3_init_33 : decode cX3_init 33 = .ok (.newarray .int, 2) := by decide +kernel
theorem dX3_init_35 : decode cX3_init 35 = .ok (.putfield 22, 3) := by decide +kernel
theorem dX3_init_38 : decode cX3_init 38 = .ok (.return_, 1) := by decide +kernel
set_option maxRecDepth 20000 in
theorem kc_X3_init_33 (d : Nat) {T : CT} {σ : MS} {a : Nat} {K : List Nat} (hraw : T a = (80 + 3, 0)) (hb : WTn T σ) (hcd : CD K T) (hdf : ∀ j, j < 200 → σ.2.1 j (a : Int) = dfF j) : Tn (d + 1) m_X3_init 0 T σ [(0, .ref a)] [] (fun ro T2 σ2 => ro = none ∧ T2 a = (33, 0) ∧ WTn T2 σ2 ∧ CD K T2 ∧ KPx a T σ T2 σ2 ∧ σ2.1 0 = σ.1 0 + (1008 : Nat) ∧ σ2.1 1 = σ.1 1 + (4 : Nat) ∧ NX 7 a T T2 ∧ NX 41 a T T2) := by
  have cx0 : CX a 3 K 0 0 T σ T σ := CX.begin hraw hb hcd
  have nx7 : NX 7 a T T := NX.begin (by decide)
  have nx41 : NX 41 a T T := NX.begin (by decide)
  have f18 : σ.2.1 18 a = -1 := (hdf 18 (by decide)).trans (by decide)
  have f19 : σ.2.1 19 a = -1 := (hdf 19 (by decide)).trans (by decide)
  have f20 : σ.2.1 20 a = -1 := (hdf 20 (by decide)).trans (by decide)
  have f21 : σ.2.1 21 a = -1 := (hdf 21 (by decide)).trans (by decide)
  have f22 : σ.2.1 22 a = 0 := (hdf 22 (by decide)).trans (by decide)
  refine tn_aload_n dX3_init_0 rfl 0 rfl ?_
  refine tn_objInit dX3_init_1 mlo3_3 oiI oiC (by omega) (Nat.le_of_ble_eq_true rfl) ?_
  refine tn_aload_n dX3_init_4 rfl 0 rfl ?_
  refine tn_sipush dX3_init_5 (by decide) ?_
  refine tn_newJ (N := 603) dX3_init_8 arC_long rfl (by decide) (fun x1 hx2 => ?_)
  have ne3 := cx0.ne hx2
  obtain ⟨T4, σ5, eT6, eS7, cx8, f18, f19, f20, f21, f22, o9, nx7, nx41⟩ : ∃ (T4 : CT) (σ5 : MS), T4 = (tT T x1 3 603) ∧ σ5 = (rowL x1 (fun _ => 0) (gh 603 σ)) ∧ CX a 3 K 603 1 T σ T4 σ5 ∧ (σ5.2.1 18 a = -1) ∧ (σ5.2.1 19 a = -1) ∧ (σ5.2.1 20 a = -1) ∧ (σ5.2.1 21 a = -1) ∧ (σ5.2.1 22 a = 0) ∧ (T4 x1 = (3, 603)) ∧ NX 7 a T T4 ∧ NX 41 a T T4 := ⟨_, _, rfl, rfl, (cx0.newJ hx2), f18, f19, f20, f21, f22, tT_eq, (nx7.mk9 (by decide)), (nx41.mk9 (by decide))⟩
  rw [← eT6]
  rw [← eS7]
  refine tn_putFr (ci := 3) (i := 0) (n := 18) (r := true) (v := (x1 : Int)) tyX3 tyX3_ok nmX3 dX3_init_10 rfl lay_3 (by decide) fl3_9 rfl rfl rfl (tyX3_ok 0 (by decide)) (vl_ref rfl).symm rfl rfl (cx8.r (by decide)) rfl rfl ?_
  obtain ⟨σ11, eS13, cx14, f18, f19, f20, f21, f22⟩ : ∃ (σ11 : MS), σ11 = (sA 18 a ((x1 : Int)) σ5) ∧ CX a 3 K 603 1 T σ T4 σ11 ∧ (σ11.2.1 18 a = (x1 : Int)) ∧ (σ11.2.1 19 a = -1) ∧ (σ11.2.1 20 a = -1) ∧ (σ11.2.1 21 a = -1) ∧ (σ11.2.1 22 a = 0) := ⟨_, rfl, (cx8.put (by decide)), ra_eq, (rc_o (by decide) f19), (rc_o (by decide) f20), (rc_o (by decide) f21), (rc_o (by decide) f22)⟩
  rw [← eS13]
  refine tn_aload_n dX3_init_13 rfl 0 rfl ?_
  refine tn_iconst dX3_init_14 ?_
  refine tn_newJ (N := 3) dX3_init_15 arC_long rfl (by decide) (fun x15 hx16 => ?_)
  have ne17 := cx14.ne hx16
  obtain ⟨T18, σ19, eT20, eS21, cx22, f18, f19, f20, f21, f22, o23, o24, nx7, nx41⟩ : ∃ (T18 : CT) (σ19 : MS), T18 = (tT T4 x15 3 3) ∧ σ19 = (rowL x15 (fun _ => 0) (gh 3 σ11)) ∧ CX a 3 K 606 2 T σ T18 σ19 ∧ (σ19.2.1 18 a = (x1 : Int)) ∧ (σ19.2.1 19 a = -1) ∧ (σ19.2.1 20 a = -1) ∧ (σ19.2.1 21 a = -1) ∧ (σ19.2.1 22 a = 0) ∧ (T18 x1 = (3, 603)) ∧ (T18 x15 = (3, 3)) ∧ NX 7 a T T18 ∧ NX 41 a T T18 := ⟨_, _, rfl, rfl, (cx14.newJ hx16), f18, f19, f20, f21, f22, (tk_keep o9 (by decide) hx16), tT_eq, (nx7.mk9 (by decide)), (nx41.mk9 (by decide))⟩
  rw [← eT20]
  rw [← eS21]
  refine tn_putFr (ci := 3) (i := 1) (n := 19) (r := true) (v := (x15 : Int)) tyX3 tyX3_ok nmX3 dX3_init_17 rfl lay_3 (by decide) fl3_15 rfl rfl rfl (tyX3_ok 1 (by decide)) (vl_ref rfl).symm rfl rfl (cx22.r (by decide)) rfl rfl ?_
  obtain ⟨σ26, eS28, cx29, f18, f19, f20, f21, f22⟩ : ∃ (σ26 : MS), σ26 = (sA 19 a ((x15 : Int)) σ19) ∧ CX a 3 K 606 2 T σ T18 σ26 ∧ (σ26.2.1 18 a = (x1 : Int)) ∧ (σ26.2.1 19 a = (x15 : Int)) ∧ (σ26.2.1 20 a = -1) ∧ (σ26.2.1 21 a = -1) ∧ (σ26.2.1 22 a = 0) := ⟨_, rfl, (cx22.put (by decide)), (rc_o (by decide) f18), ra_eq, (rc_o (by decide) f20), (rc_o (by decide) f21), (rc_o (by decide) f22)⟩
  rw [← eS28]
  refine tn_aload_n dX3_init_20 rfl 0 rfl ?_
  refine tn_sipush dX3_init_21 (by decide) ?_
  refine tn_newI (N := 201) (k := 1) dX3_init_24 arC_int (by decide) rfl (by decide) (fun x30 hx31 => ?_)
  have ne32 := cx29.ne hx31
  obtain ⟨T33, σ34, eT35, eS36, cx37, f18, f19, f20, f21, f22, o38, o39, o40, nx7, nx41⟩ : ∃ (T33 : CT) (σ34 : MS), T33 = (tT T18 x30 1 201) ∧ σ34 = (rowS (1000 + x30) (fun _ => 0) (gh 201 σ26)) ∧ CX a 3 K 807 3 T σ T33 σ34 ∧ (σ34.2.1 18 a = (x1 : Int)) ∧ (σ34.2.1 19 a = (x15 : Int)) ∧ (σ34.2.1 20 a = -1) ∧ (σ34.2.1 21 a = -1) ∧ (σ34.2.1 22 a = 0) ∧ (T33 x1 = (3, 603)) ∧ (T33 x15 = (3, 3)) ∧ (T33 x30 = (1, 201)) ∧ NX 7 a T T33 ∧ NX 41 a T T33 := ⟨_, _, rfl, rfl, (cx29.newI hx31 (by decide)), (by rw [rowS_ne (by omega)]; exact f18), (by rw [rowS_ne (by omega)]; exact f19), (by rw [rowS_ne (by omega)]; exact f20), (by rw [rowS_ne (by omega)]; exact f21), (by rw [rowS_ne (by omega)]; exact f22), (tk_keep o23 (by decide) hx31), (tk_keep o24 (by decide) hx31), tT_eq, (nx7.mk9 (by decide)), (nx41.mk9 (by decide))⟩
  rw [← eT35]
  rw [← eS36]
  refine tn_putFr (ci := 3) (i := 2) (n := 20) (r := true) (v := (x30 : Int)) tyX3 tyX3_ok nmX3 dX3_init_26 rfl lay_3 (by decide) fl3_18 rfl rfl rfl (tyX3_ok 2 (by decide)) (vl_ref rfl).symm rfl rfl (cx37.r (by decide)) rfl rfl ?_
  obtain ⟨σ42, eS44, cx45, f18, f19, f20, f21, f22⟩ : ∃ (σ42 : MS), σ42 = (sA 20 a ((x30 : Int)) σ34) ∧ CX a 3 K 807 3 T σ T33 σ42 ∧ (σ42.2.1 18 a = (x1 : Int)) ∧ (σ42.2.1 19 a = (x15 : Int)) ∧ (σ42.2.1 20 a = (x30 : Int)) ∧ (σ42.2.1 21 a = -1) ∧ (σ42.2.1 22 a = 0) := ⟨_, rfl, (cx37.put (by decide)), (rc_o (by decide) f18), (rc_o (by decide) f19), ra_eq, (rc_o (by decide) f21), (rc_o (by decide) f22)⟩
  rw [← eS44]
  refine tn_aload_n dX3_init_29 rfl 0 rfl ?_
  refine tn_sipush dX3_init_30 (by decide) ?_
  refine tn_newI (N := 201) (k := 1) dX3_init_33 arC_int (by decide) rfl (by decide) (fun x46 hx47 => ?_)
  have ne48 := cx45.ne hx47
  obtain ⟨T49, σ50, eT51, eS52, cx53, f18, f19, f20, f21, f22, o54, o55, o56, o57, nx7, nx41⟩ : ∃ (T49 : CT) (σ50 : MS), T49 = (tT T33 x46 1 201) ∧ σ50 = (rowS (1000 + x46) (fun _ => 0) (gh 201 σ42)) ∧ CX a 3 K 1008 4 T σ T49 σ50 ∧ (σ50.2.1 18 a = (x1 : Int)) ∧ (σ50.2.1 19 a = (x15 : Int)) ∧ (σ50.2.1 20 a = (x30 : Int)) ∧ (σ50.2.1 21 a = -1) ∧ (σ50.2.1 22 a = 0) ∧ (T49 x1 = (3, 603)) ∧ (T49 x15 = (3, 3)) ∧ (T49 x30 = (1, 201)) ∧ (T49 x46 = (1, 201)) ∧ NX 7 a T T49 ∧ NX 41 a T T49 := ⟨_, _, rfl, rfl, (cx45.newI hx47 (by decide)), (by rw [rowS_ne (by omega)]; exact f18), (by rw [rowS_ne (by omega)]; exact f19), (by rw [rowS_ne (by omega)]; exact f20), (by rw [rowS_ne (by omega)]; exact f21), (by rw [rowS_ne (by omega)]; exact f22), (tk_keep o38 (by decide) hx47), (tk_keep o39 (by decide) hx47), (tk_keep o40 (by decide) hx47), tT_eq, (nx7.mk9 (by decide)), (nx41.mk9 (by decide))⟩
  rw [← eT51]
  rw [← eS52]
  refine tn_putFr (ci := 3) (i := 3) (n := 21) (r := true) (v := (x46 : Int)) tyX3 tyX3_ok nmX3 dX3_init_35 rfl lay_3 (by decide) fl3_22 rfl rfl rfl (tyX3_ok 3 (by decide)) (vl_ref rfl).symm rfl rfl (cx53.r (by decide)) rfl rfl ?_
  obtain ⟨σ59, eS61, cx62, f18, f19, f20, f21, f22⟩ : ∃ (σ59 : MS), σ59 = (sA 21 a ((x46 : Int)) σ50) ∧ CX a 3 K 1008 4 T σ T49 σ59 ∧ (σ59.2.1 18 a = (x1 : Int)) ∧ (σ59.2.1 19 a = (x15 : Int)) ∧ (σ59.2.1 20 a = (x30 : Int)) ∧ (σ59.2.1 21 a = (x46 : Int)) ∧ (σ59.2.1 22 a = 0) := ⟨_, rfl, (cx53.put (by decide)), (rc_o (by decide) f18), (rc_o (by decide) f19), (rc_o (by decide) f20), ra_eq, (rc_o (by decide) f22)⟩
  rw [← eS61]
  refine tn_tag (ci := 3) (k := 33) (by decide) cx62.1 (by decide) ?_
  have hf9 : ∀ m, m < 111 → cls m = 3 → FO m 33 T49 (σ59.2.1 m a) := fun m hm9 hc9 => by
    have q9 := clsR_3 m hm9 hc9
    have q8 : m = 18 ∨ m = 19 ∨ m = 20 ∨ m = 21 ∨ m = 22 := by omega
    rcases q8 with q8 | q8 | q8 | q8 | q8
    · subst q8; rw [f18]; exact fo_18 (⟨_, rfl, AR.of o54 (by decide) (by decide)⟩)
    · subst q8; rw [f19]; exact fo_19 (⟨_, rfl, AR.of o55 (by decide) (by decide)⟩)
    · subst q8; rw [f20]; exact fo_20 (⟨_, rfl, AR.of o56 (by decide) (by decide)⟩)
    · subst q8; rw [f21]; exact fo_21 (⟨_, rfl, AR.of o57 (by decide) (by decide)⟩)
    · subst q8; rw [f22]; exact fo_22 (by decide)
  exact tn_vret rfl dX3_init_38 ⟨rfl, tT_eq, cx62.2.1.tag cx62.1 (by decide) hf9 (fun h => absurd h (by decide)), cx62.2.2.1.tag (by rw [cx62.1]; decide) (by decide), cx62.2.2.2.1.tag, cx62.2.2.2.2.1, cx62.2.2.2.2.2, nx7.tag, nx41.tag⟩
