theorem cd_X8_init : Cond.code yX8_init cX8_init 2 none ∈ pWW := pw2 (List.mem_of_getElem? (i := 96) rfl) rfl
abbrev m_X8_init : MT := (yX8_init, cX8_init, 2, none)
theorem ok_X8_init : pOk m_X8_init := ⟨⟨cd_X8_init, ini_8⟩, by decide +kernel, ⟨by decide +kernel, by decide +kernel⟩, Nat.le_of_ble_eq_true rfl⟩
theorem np_X8_init : (parseMethodDescriptor yX8_init.desc).map (fun d => d.parameters.length) = some 1 := by decide +kernel
theorem im_X8_init : Cond.instanceMethod yX8_init ∈ pWW := pw2 (List.mem_of_getElem? (i := 95) rfl) rfl
theorem mlo8_3 : Cond.methodLink RX8 3 objectInit ∈ pWW := pw2 (List.mem_of_getElem? (i := 97) rfl) rfl
theorem dX8_init_0 : decode cX8_init 0 = .ok (.aload_n 0, 1) := by decide +kernel
theorem dX8_init_1 : decode cX8_init 1 = .ok (.invokespecial 3, 3) := by decide +kernel
theorem dX8_init_4 : decode cX8_init 4 = .ok (.aload_n 0, 1) := by decide +kernel
theorem dX8_init_5 : decode cX8_init 5 = .ok (.sipush 576, 3) := by decide +kernel
theorem dX8_init_8 : decode cX8_init 8 = .ok (.newarray .long, 2) := by decide +kernel
theorem dX8_init_10 : decode cX8_init 10 = .ok (.putfield 9, 3) := by decide +kernel
theorem dX8_init_13 : decode cX8_init 13 = .ok (.aload_n 0, 1) := by decide +kernel
theorem dX8_init_14 : decode cX8_init 14 = .ok (.iconst 3, 1) := by decide +kernel
theorem dX8_init_15 : decode cX8_init 15 = .ok (.newarray .long, 2) := by decide +kernel
theorem dX8_init_17 : decode cX8_init 17 = .ok (.putfield 15, 3) := by decide +kernel
theorem dX8_init_20 : decode cX8_init 20 = .ok (.aload_n 0, 1) := by decide +kernel
theorem dX8_init_21 : decode cX8_init 21 = .ok (.sipush 192, 3) := by decide +kernel
theorem dX8_init_24 : decode cX8_init 24 = .ok (.newarray .int, 2) := by decide +kernel
theorem dX8_init_26 : decode cX8_init 26 = .ok (.putfield 18, 3) := by decide +kernel
theorem dX8_init_29 : decode cX8_init 29 = .ok (.aload_n 0, 1) := by decide +kernel
theorem dX8_init_30 : decode cX8_init 30 = .ok (.sipush 576, 3) := by decide +kernel
theorem dX8_init_33 : decode cX8_init 33 = .ok (.newarray .long, 2) := by decide +kernel
theorem dX8_init_35 : decode cX8_init 35 = .ok (.putfield 22, 3) := by decide +kernel
theorem dX8_init_38 : decode cX8_init 38 = .ok (.aload_n 0, 1) := by decide +kernel
theorem dX8_init_39 : decode cX8_init 39 = .ok (.sipush 603, 3) := by decide +kernel
theorem dX8_init_42 : decode cX8_init 42 = .ok (.newarray .long, 2) := by decide +kernel
theorem dX8_init_44 : decode cX8_init 44 = .ok (.putfield 25, 3) := by decide +kernel
theorem dX8_init_47 : decode cX8_init 47 = .ok (.aload_n 0, 1) := by decide +kernel
theorem dX8_init_48 : decode cX8_init 48 = .ok (.sipush 201, 3) := by decide +kernel
theorem dX8_init_51 : decode cX8_init 51 = .ok (.newarray .int, 2) := by decide +kernel
theorem dX8_init_53 : decode cX8_init 53 = .ok (.putfield 28, 3) := by decide +kernel
theorem dX8_init_56 : decode cX8_init 56 = .ok (.aload_n 0, 1) := by decide +kernel
theorem dX8_init_57 : decode cX8_init 57 = .ok (.iconst 3, 1) := by decide +kernel
theorem dX8_init_58 : decode cX8_init 58 = .ok (.newarray .long, 2) := by decide +kernel
theorem dX8_init_60 : decode cX8_init 60 = .ok (.putfield 31, 3) := by decide +kernel
theorem dX8_init_63 : decode cX8_init 63 = .ok (.aload_n 0, 1) := by decide +kernel
theorem dX8_init_64 : decode cX8_init 64 = .ok (.aload_n 1, 1) := by decide +kernel
theorem dX8_init_65 : decode cX8_init 65 = .ok (.putfield 34, 3) := by decide +kernel
theorem dX8_init_68 : decode cX8_init 68 = .ok (.return_, 1) := by decide +kernel
set_option maxRecDepth 20000 in
theorem kc_X8_init_38 (d : Nat) {T : CT} {σ : MS} {a : Nat} {K : List Nat} {fl : Nat} (hraw : T a = (80 + 8, 0)) (hb : WTn T σ) (hcd : CD K T) (hdf : ∀ j, j < 200 → σ.2.1 j (a : Int) = dfF j) (h_fl : T fl = (33, 0)) : Tn (d + 1) m_X8_init 0 T σ [(0, .ref a), (1, .ref fl)] [] (fun ro T2 σ2 => ro = none ∧ T2 a = (38, 0) ∧ WTn T2 σ2 ∧ CD K T2 ∧ KPx a T σ T2 σ2 ∧ σ2.1 0 = σ.1 0 + (2154 : Nat) ∧ σ2.1 1 = σ.1 1 + (7 : Nat) ∧ NX 7 a T T2 ∧ NX 41 a T T2) := by
  have cx0 : CX a 8 K 0 0 T σ T σ := CX.begin hraw hb hcd
  have nx7 : NX 7 a T T := NX.begin (by decide)
  have nx41 : NX 41 a T T := NX.begin (by decide)
  have f72 : σ.2.1 72 a = -1 := (hdf 72 (by decide)).trans (by decide)
  have f73 : σ.2.1 73 a = -1 := (hdf 73 (by decide)).trans (by decide)
  have f74 : σ.2.1 74 a = -1 := (hdf 74 (by decide)).trans (by decide)
  have f75 : σ.2.1 75 a = -1 := (hdf 75 (by decide)).trans (by decide)
  have f76 : σ.2.1 76 a = -1 := (hdf 76 (by decide)).trans (by decide)
  have f77 : σ.2.1 77 a = -1 := (hdf 77 (by decide)).trans (by decide)
  have f78 : σ.2.1 78 a = -1 := (hdf 78 (by decide)).trans (by decide)
  have f79 : σ.2.1 79 a = -1 := (hdf 79 (by decide)).trans (by decide)
  have f80 : σ.2.1 80 a = 0 := (hdf 80 (by decide)).trans (by decide)
  refine tn_aload_n dX8_init_0 rfl 0 rfl ?_
  refine tn_objInit dX8_init_1 mlo8_3 oiI oiC (by omega) (Nat.le_of_ble_eq_true rfl) ?_
  refine tn_aload_n dX8_init_4 rfl 0 rfl ?_
  refine tn_sipush dX8_init_5 (by decide) ?_
  refine tn_newJ (N := 576) dX8_init_8 arC_long rfl (by decide) (fun x1 hx2 => ?_)
  have ne3 := cx0.ne hx2
  obtain ⟨T4, σ5, eT6, eS7, cx8, f72, f73, f74, f75, f76, f77, f78, f79, f80, o9, o10, nx7, nx41⟩ : ∃ (T4 : CT) (σ5 : MS), T4 = (tT T x1 3 576) ∧ σ5 = (rowL x1 (fun _ => 0) (gh 576 σ)) ∧ CX a 8 K 576 1 T σ T4 σ5 ∧ (σ5.2.1 72 a = -1) ∧ (σ5.2.1 73 a = -1) ∧ (σ5.2.1 74 a = -1) ∧ (σ5.2.1 75 a = -1) ∧ (σ5.2.1 76 a = -1) ∧ (σ5.2.1 77 a = -1) ∧ (σ5.2.1 78 a = -1) ∧ (σ5.2.1 79 a = -1) ∧ (σ5.2.1 80 a = 0) ∧ (T4 fl = (33, 0)) ∧ (T4 x1 = (3, 576)) ∧ NX 7 a T T4 ∧ NX 41 a T T4 := ⟨_, _, rfl, rfl, (cx0.newJ hx2), f72, f73, f74, f75, f76, f77, f78, f79, f80, (tk_keep h_fl (by decide) hx2), tT_eq, (nx7.mk9 (by decide)), (nx41.mk9 (by decide))⟩
  rw [← eT6]
  rw [← eS7]
  refine tn_putFr (ci := 8) (i := 1) (n := 73) (r := true) (v := (x1 : Int)) tyX8 tyX8_ok nmX8 dX8_init_10 rfl lay_8 (by decide) fl8_9 rfl rfl rfl (tyX8_ok 1 (by decide)) (vl_ref rfl).symm rfl rfl (cx8.r (by decide)) rfl rfl ?_
  obtain ⟨σ12, eS14, cx15, f72, f73, f74, f75, f76, f77, f78, f79, f80⟩ : ∃ (σ12 : MS), σ12 = (sA 73 a ((x1 : Int)) σ5) ∧ CX a 8 K 576 1 T σ T4 σ12 ∧ (σ12.2.1 72 a = -1) ∧ (σ12.2.1 73 a = (x1 : Int)) ∧ (σ12.2.1 74 a = -1) ∧ (σ12.2.1 75 a = -1) ∧ (σ12.2.1 76 a = -1) ∧ (σ12.2.1 77 a = -1) ∧ (σ12.2.1 78 a = -1) ∧ (σ12.2.1 79 a = -1) ∧ (σ12.2.1 80 a = 0) := ⟨_, rfl, (cx8.put (by decide)), (rc_o (by decide) f72), ra_eq, (rc_o (by decide) f74), (rc_o (by decide) f75), (rc_o (by decide) f76), (rc_o (by decide) f77), (rc_o (by decide) f78), (rc_o (by decide) f79), (rc_o (by decide) f80)⟩
  rw [← eS14]
  refine tn_aload_n dX8_init_13 rfl 0 rfl ?_
  refine tn_iconst dX8_init_14 ?_
  refine tn_newJ (N := 3) dX8_init_15 arC_long rfl (by decide) (fun x16 hx17 => ?_)
  have ne18 := cx15.ne hx17
  obtain ⟨T19, σ20, eT21, eS22, cx23, f72, f73, f74, f75, f76, f77, f78, f79, f80, o24, o25, o26, nx7, nx41⟩ : ∃ (T19 : CT) (σ20 : MS), T19 = (tT T4 x16 3 3) ∧ σ20 = (rowL x16 (fun _ => 0) (gh 3 σ12)) ∧ CX a 8 K 579 2 T σ T19 σ20 ∧ (σ20.2.1 72 a = -1) ∧ (σ20.2.1 73 a = (x1 : Int)) ∧ (σ20.2.1 74 a = -1) ∧ (σ20.2.1 75 a = -1) ∧ (σ20.2.1 76 a = -1) ∧ (σ20.2.1 77 a = -1) ∧ (σ20.2.1 78 a = -1) ∧ (σ20.2.1 79 a = -1) ∧ (σ20.2.1 80 a = 0) ∧ (T19 fl = (33, 0)) ∧ (T19 x1 = (3, 576)) ∧ (T19 x16 = (3, 3)) ∧ NX 7 a T T19 ∧ NX 41 a T T19 := ⟨_, _, rfl, rfl, (cx15.newJ hx17), f72, f73, f74, f75, f76, f77, f78, f79, f80, (tk_keep o9 (by decide) hx17), (tk_keep o10 (by decide) hx17), tT_eq, (nx7.mk9 (by decide)), (nx41.mk9 (by decide))⟩
  rw [← eT21]
  rw [← eS22]
  refine tn_putFr (ci := 8) (i := 2) (n := 74) (r := true) (v := (x16 : Int)) tyX8 tyX8_ok nmX8 dX8_init_17 rfl lay_8 (by decide) fl8_15 rfl rfl rfl (tyX8_ok 2 (by decide)) (vl_ref rfl).symm rfl rfl (cx23.r (by decide)) rfl rfl ?_
  obtain ⟨σ28, eS30, cx31, f72, f73, f74, f75, f76, f77, f78, f79, f80⟩ : ∃ (σ28 : MS), σ28 = (sA 74 a ((x16 : Int)) σ20) ∧ CX a 8 K 579 2 T σ T19 σ28 ∧ (σ28.2.1 72 a = -1) ∧ (σ28.2.1 73 a = (x1 : Int)) ∧ (σ28.2.1 74 a = (x16 : Int)) ∧ (σ28.2.1 75 a = -1) ∧ (σ28.2.1 76 a = -1) ∧ (σ28.2.1 77 a = -1) ∧ (σ28.2.1 78 a = -1) ∧ (σ28.2.1 79 a = -1) ∧ (σ28.2.1 80 a = 0) := ⟨_, rfl, (cx23.put (by decide)), (rc_o (by decide) f72), (rc_o (by decide) f73), ra_eq, (rc_o (by decide) f75), (rc_o (by decide) f76), (rc_o (by decide) f77), (rc_o (by decide) f78), (rc_o (by decide) f79), (rc_o (by decide) f80)⟩
  rw [← eS30]
  refine tn_aload_n dX8_init_20 rfl 0 rfl ?_
  refine tn_sipush dX8_init_21 (by decide) ?_
  refine tn_newI (N := 192) (k := 1) dX8_init_24 arC_int (by decide) rfl (by decide) (fun x32 hx33 => ?_)
  have ne34 := cx31.ne hx33
  obtain ⟨T35, σ36, eT37, eS38, cx39, f72, f73, f74, f75, f76, f77, f78, f79, f80, o40, o41, o42, o43, nx7, nx41⟩ : ∃ (T35 : CT) (σ36 : MS), T35 = (tT T19 x32 1 192) ∧ σ36 = (rowS (1000 + x32) (fun _ => 0) (gh 192 σ28)) ∧ CX a 8 K 771 3 T σ T35 σ36 ∧ (σ36.2.1 72 a = -1) ∧ (σ36.2.1 73 a = (x1 : Int)) ∧ (σ36.2.1 74 a = (x16 : Int)) ∧ (σ36.2.1 75 a = -1) ∧ (σ36.2.1 76 a = -1) ∧ (σ36.2.1 77 a = -1) ∧ (σ36.2.1 78 a = -1) ∧ (σ36.2.1 79 a = -1) ∧ (σ36.2.1 80 a = 0) ∧ (T35 fl = (33, 0)) ∧ (T35 x1 = (3, 576)) ∧ (T35 x16 = (3, 3)) ∧ (T35 x32 = (1, 192)) ∧ NX 7 a T T35 ∧ NX 41 a T T35 := ⟨_, _, rfl, rfl, (cx31.newI hx33 (by decide)), (by rw [rowS_ne (by omega)]; exact f72), (by rw [rowS_ne (by omega)]; exact f73), (by rw [rowS_ne (by omega)]; exact f74), (by rw [rowS_ne (by omega)]; exact f75), (by rw [rowS_ne (by omega)]; exact f76), (by rw [rowS_ne (by omega)]; exact f77), (by rw [rowS_ne (by omega)]; exact f78), (by rw [rowS_ne (by omega)]; exact f79), (by rw [rowS_ne (by omega)]; exact f80), (tk_keep o24 (by decide) hx33), (tk_keep o25 (by decide) hx33), (tk_keep o26 (by decide) hx33), tT_eq, (nx7.mk9 (by decide)), (nx41.mk9 (by decide))⟩
  rw [← eT37]
  rw [← eS38]
  refine tn_putFr (ci := 8) (i := 3) (n := 75) (r := true) (v := (x32 : Int)) tyX8 tyX8_ok nmX8 dX8_init_26 rfl lay_8 (by decide) fl8_18 rfl rfl rfl (tyX8_ok 3 (by decide)) (vl_ref rfl).symm rfl rfl (cx39.r (by decide)) rfl rfl ?_
  obtain ⟨σ45, eS47, cx48, f72, f73, f74, f75, f76, f77, f78, f79, f80⟩ : ∃ (σ45 : MS), σ45 = (sA 75 a ((x32 : Int)) σ36) ∧ CX a 8 K 771 3 T σ T35 σ45 ∧ (σ45.2.1 72 a = -1) ∧ (σ45.2.1 73 a = (x1 : Int)) ∧ (σ45.2.1 74 a = (x16 : Int)) ∧ (σ45.2.1 75 a = (x32 : Int)) ∧ (σ45.2.1 76 a = -1) ∧ (σ45.2.1 77 a = -1) ∧ (σ45.2.1 78 a = -1) ∧ (σ45.2.1 79 a = -1) ∧ (σ45.2.1 80 a = 0) := ⟨_, rfl, (cx39.put (by decide)), (rc_o (by decide) f72), (rc_o (by decide) f73), (rc_o (by decide) f74), ra_eq, (rc_o (by decide) f76), (rc_o (by decide) f77), (rc_o (by decide) f78), (rc_o (by decide) f79), (rc_o (by decide) f80)⟩
  rw [← eS47]
  refine tn_aload_n dX8_init_29 rfl 0 rfl ?_
  refine tn_sipush dX8_init_30 (by decide) ?_
  refine tn_newJ (N := 576) dX8_init_33 arC_long rfl (by decide) (fun x49 hx50 => ?_)
  have ne51 := cx48.ne hx50
  obtain ⟨T52, σ53, eT54, eS55, cx56, f72, f73, f74, f75, f76, f77, f78, f79, f80, o57, o58, o59, o60, o61, nx7, nx41⟩ : ∃ (T52 : CT) (σ53 : MS), T52 = (tT T35 x49 3 576) ∧ σ53 = (rowL x49 (fun _ => 0) (gh 576 σ45)) ∧ CX a 8 K 1347 4 T σ T52 σ53 ∧ (σ53.2.1 72 a = -1) ∧ (σ53.2.1 73 a = (x1 : Int)) ∧ (σ53.2.1 74 a = (x16 : Int)) ∧ (σ53.2.1 75 a = (x32 : Int)) ∧ (σ53.2.1 76 a = -1) ∧ (σ53.2.1 77 a = -1) ∧ (σ53.2.1 78 a = -1) ∧ (σ53.2.1 79 a = -1) ∧ (σ53.2.1 80 a = 0) ∧ (T52 fl = (33, 0)) ∧ (T52 x1 = (3, 576)) ∧ (T52 x16 = (3, 3)) ∧ (T52 x32 = (1, 192)) ∧ (T52 x49 = (3, 576)) ∧ NX 7 a T T52 ∧ NX 41 a T T52 := ⟨_, _, rfl, rfl, (cx48.newJ hx50), f72, f73, f74, f75, f76, f77, f78, f79, f80, (tk_keep o40 (by decide) hx50), (tk_keep o41 (by decide) hx50), (tk_keep o42 (by decide) hx50), (tk_keep o43 (by decide) hx50), tT_eq, (nx7.mk9 (by decide)), (nx41.mk9 (by decide))⟩
  rw [← eT54]
  rw [← eS55]
  refine tn_putFr (ci := 8) (i := 4) (n := 76) (r := true) (v := (x49 : Int)) tyX8 tyX8_ok nmX8 dX8_init_35 rfl lay_8 (by decide) fl8_22 rfl rfl rfl (tyX8_ok 4 (by decide)) (vl_ref rfl).symm rfl rfl (cx56.r (by decide)) rfl rfl ?_
  obtain ⟨σ63, eS65, cx66, f72, f73, f74, f75, f76, f77, f78, f79, f80⟩ : ∃ (σ63 : MS), σ63 = (sA 76 a ((x49 : Int)) σ53) ∧ CX a 8 K 1347 4 T σ T52 σ63 ∧ (σ63.2.1 72 a = -1) ∧ (σ63.2.1 73 a = (x1 : Int)) ∧ (σ63.2.1 74 a = (x16 : Int)) ∧ (σ63.2.1 75 a = (x32 : Int)) ∧ (σ63.2.1 76 a = (x49 : Int)) ∧ (σ63.2.1 77 a = -1) ∧ (σ63.2.1 78 a = -1) ∧ (σ63.2.1 79 a = -1) ∧ (σ63.2.1 80 a = 0) := ⟨_, rfl, (cx56.put (by decide)), (rc_o (by decide) f72), (rc_o (by decide) f73), (rc_o (by decide) f74), (rc_o (by decide) f75), ra_eq, (rc_o (by decide) f77), (rc_o (by decide) f78), (rc_o (by decide) f79), (rc_o (by decide) f80)⟩
  rw [← eS65]
  refine tn_aload_n dX8_init_38 rfl 0 rfl ?_
  refine tn_sipush dX8_init_39 (by decide) ?_
  refine tn_newJ (N := 603) dX8_init_42 arC_long rfl (by decide) (fun x67 hx68 => ?_)
  have ne69 := cx66.ne hx68
  obtain ⟨T70, σ71, eT72, eS73, cx74, f72, f73, f74, f75, f76, f77, f78, f79, f80, o75, o76, o77, o78, o79, o80, nx7, nx41⟩ : ∃ (T70 : CT) (σ71 : MS), T70 = (tT T52 x67 3 603) ∧ σ71 = (rowL x67 (fun _ => 0) (gh 603 σ63)) ∧ CX a 8 K 1950 5 T σ T70 σ71 ∧ (σ71.2.1 72 a = -1) ∧ (σ71.2.1 73 a = (x1 : Int)) ∧ (σ71.2.1 74 a = (x16 : Int)) ∧ (σ71.2.1 75 a = (x32 : Int)) ∧ (σ71.2.1 76 a = (x49 : Int)) ∧ (σ71.2.1 77 a = -1) ∧ (σ71.2.1 78 a = -1) ∧ (σ71.2.1 79 a = -1) ∧ (σ71.2.1 80 a = 0) ∧ (T70 fl = (33, 0)) ∧ (T70 x1 = (3, 576)) ∧ (T70 x16 = (3, 3)) ∧ (T70 x32 = (1, 192)) ∧ (T70 x49 = (3, 576)) ∧ (T70 x67 = (3, 603)) ∧ NX 7 a T T70 ∧ NX 41 a T T70 := ⟨_, _, rfl, rfl, (cx66.newJ hx68), f72, f73, f74, f75, f76, f77, f78, f79, f80, (tk_keep o57 (by decide) hx68), (tk_keep o58 (by decide) hx68), (tk_keep o59 (by decide) hx68), (tk_keep o60 (by decide) hx68), (tk_keep o61 (by decide) hx68), tT_eq, (nx7.mk9 (by decide)), (nx41.mk9 (by decide))⟩
  rw [← eT72]
  rw [← eS73]
  refine tn_putFr (ci := 8) (i := 5) (n := 77) (r := true) (v := (x67 : Int)) tyX8 tyX8_ok nmX8 dX8_init_44 rfl lay_8 (by decide) fl8_25 rfl rfl rfl (tyX8_ok 5 (by decide)) (vl_ref rfl).symm rfl rfl (cx74.r (by decide)) rfl rfl ?_
  obtain ⟨σ82, eS84, cx85, f72, f73, f74, f75, f76, f77, f78, f79, f80⟩ : ∃ (σ82 : MS), σ82 = (sA 77 a ((x67 : Int)) σ71) ∧ CX a 8 K 1950 5 T σ T70 σ82 ∧ (σ82.2.1 72 a = -1) ∧ (σ82.2.1 73 a = (x1 : Int)) ∧ (σ82.2.1 74 a = (x16 : Int)) ∧ (σ82.2.1 75 a = (x32 : Int)) ∧ (σ82.2.1 76 a = (x49 : Int)) ∧ (σ82.2.1 77 a = (x67 : Int)) ∧ (σ82.2.1 78 a = -1) ∧ (σ82.2.1 79 a = -1) ∧ (σ82.2.1 80 a = 0) := ⟨_, rfl, (cx74.put (by decide)), (rc_o (by decide) f72), (rc_o (by decide) f73), (rc_o (by decide) f74), (rc_o (by decide) f75), (rc_o (by decide) f76), ra_eq, (rc_o (by decide) f78), (rc_o (by decide) f79), (rc_o (by decide) f80)⟩
  rw [← eS84]
  refine tn_aload_n dX8_init_47 rfl 0 rfl ?_
  refine tn_sipush dX8_init_48 (by decide) ?_
  refine tn_newI (N := 201) (k := 1) dX8_init_51 arC_int (by decide) rfl (by decide) (fun x86 hx87 => ?_)
  have ne88 := cx85.ne hx87
  obtain ⟨T89, σ90, eT91, eS92, cx93, f72, f73, f74, f75, f76, f77, f78, f79, f80, o94, o95, o96, o97, o98, o99, o100, nx7, nx41⟩ : ∃ (T89 : CT) (σ90 : MS), T89 = (tT T70 x86 1 201) ∧ σ90 = (rowS (1000 + x86) (fun _ => 0) (gh 201 σ82)) ∧ CX a 8 K 2151 6 T σ T89 σ90 ∧ (σ90.2.1 72 a = -1) ∧ (σ90.2.1 73 a = (x1 : Int)) ∧ (σ90.2.1 74 a = (x16 : Int)) ∧ (σ90.2.1 75 a = (x32 : Int)) ∧ (σ90.2.1 76 a = (x49 : Int)) ∧ (σ90.2.1 77 a = (x67 : Int)) ∧ (σ90.2.1 78 a = -1) ∧ (σ90.2.1 79 a = -1) ∧ (σ90.2.1 80 a = 0) ∧ (T89 fl = (33, 0)) ∧ (T89 x1 = (3, 576)) ∧ (T89 x16 = (3, 3)) ∧ (T89 x32 = (1, 192)) ∧ (T89 x49 = (3, 576)) ∧ (T89 x67 = (3, 603)) ∧ (T89 x86 = (1, 201)) ∧ NX 7 a T T89 ∧ NX 41 a T T89 := ⟨_, _, rfl, rfl, (cx85.newI hx87 (by decide)), (by rw [rowS_ne (by omega)]; exact f72), (by rw [rowS_ne (by omega)]; exact f73), (by rw [rowS_ne (by omega)]; exact f74), (by rw [rowS_ne (by omega)]; exact f75), (by rw [rowS_ne (by omega)]; exact f76), (by rw [rowS_ne (by omega)]; exact f77), (by rw [rowS_ne (by omega)]; exact f78), (by rw [rowS_ne (by omega)]; exact f79), (by rw [rowS_ne (by omega)]; exact f80), (tk_keep o75 (by decide) hx87), (tk_keep o76 (by decide) hx87), (tk_keep o77 (by decide) hx87), (tk_keep o78 (by decide) hx87), (tk_keep o79 (by decide) hx87), (tk_keep o80 (by decide) hx87), tT_eq, (nx7.mk9 (by decide)), (nx41.mk9 (by decide))⟩
  rw [← eT91]
  rw [← eS92]
  refine tn_putFr (ci := 8) (i := 6) (n := 78) (r := true) (v := (x86 : Int)) tyX8 tyX8_ok nmX8 dX8_init_53 rfl lay_8 (by decide) fl8_28 rfl rfl rfl (tyX8_ok 6 (by decide)) (vl_ref rfl).symm rfl rfl (cx93.r (by decide)) rfl rfl ?_
  obtain ⟨σ102, eS104, cx105, f72, f73, f74, f75, f76, f77, f78, f79, f80⟩ : ∃ (σ102 : MS), σ102 = (sA 78 a ((x86 : Int)) σ90) ∧ CX a 8 K 2151 6 T σ T89 σ102 ∧ (σ102.2.1 72 a = -1) ∧ (σ102.2.1 73 a = (x1 : Int)) ∧ (σ102.2.1 74 a = (x16 : Int)) ∧ (σ102.2.1 75 a = (x32 : Int)) ∧ (σ102.2.1 76 a = (x49 : Int)) ∧ (σ102.2.1 77 a = (x67 : Int)) ∧ (σ102.2.1 78 a = (x86 : Int)) ∧ (σ102.2.1 79 a = -1) ∧ (σ102.2.1 80 a = 0) := ⟨_, rfl, (cx93.put (by decide)), (rc_o (by decide) f72), (rc_o (by decide) f73), (rc_o (by decide) f74), (rc_o (by decide) f75), (rc_o (by decide) f76), (rc_o (by decide) f77), ra_eq, (rc_o (by decide) f79), (rc_o (by decide) f80)⟩
  rw [← eS104]
  refine tn_aload_n dX8_init_56 rfl 0 rfl ?_
  refine tn_iconst dX8_init_57 ?_
  refine tn_newJ (N := 3) dX8_init_58 arC_long rfl (by decide) (fun x106 hx107 => ?_)
  have ne108 := cx105.ne hx107
  obtain ⟨T109, σ110, eT111, eS112, cx113, f72, f73, f74, f75, f76, f77, f78, f79, f80, o114, o115, o116, o117, o118, o119, o120, o121, nx7, nx41⟩ : ∃ (T109 : CT) (σ110 : MS), T109 = (tT T89 x106 3 3) ∧ σ110 = (rowL x106 (fun _ => 0) (gh 3 σ102)) ∧ CX a 8 K 2154 7 T σ T109 σ110 ∧ (σ110.2.1 72 a = -1) ∧ (σ110.2.1 73 a = (x1 : Int)) ∧ (σ110.2.1 74 a = (x16 : Int)) ∧ (σ110.2.1 75 a = (x32 : Int)) ∧ (σ110.2.1 76 a = (x49 : Int)) ∧ (σ110.2.1 77 a = (x67 : Int)) ∧ (σ110.2.1 78 a = (x86 : Int)) ∧ (σ110.2.1 79 a = -1) ∧ (σ110.2.1 80 a = 0) ∧ (T109 fl = (33, 0)) ∧ (T109 x1 = (3, 576)) ∧ (T109 x16 = (3, 3)) ∧ (T109 x32 = (1, 192)) ∧ (T109 x49 = (3, 576)) ∧ (T109 x67 = (3, 603)) ∧ (T109 x86 = (1, 201)) ∧ (T109 x106 = (3, 3)) ∧ NX 7 a T T109 ∧ NX 41 a T T109 := ⟨_, _, rfl, rfl, (cx105.newJ hx107), f72, f73, f74, f75, f76, f77, f78, f79, f80, (tk_keep o94 (by decide) hx107), (tk_keep o95 (by decide) hx107), (tk_keep o96 (by decide) hx107), (tk_keep o97 (by decide) hx107), (tk_keep o98 (by decide) hx107), (tk_keep o99 (by decide) hx107), (tk_keep o100 (by decide) hx107), tT_eq, (nx7.mk9 (by decide)), (nx41.mk9 (by decide))⟩
  rw [← eT111]
  rw [← eS112]
  refine tn_putFr (ci := 8) (i := 7) (n := 79) (r := true) (v := (x106 : Int)) tyX8 tyX8_ok nmX8 dX8_init_60 rfl lay_8 (by decide) fl8_31 rfl rfl rfl (tyX8_ok 7 (by decide)) (vl_ref rfl).symm rfl rfl (cx113.r (by decide)) rfl rfl ?_
  obtain ⟨σ123, eS125, cx126, f72, f73, f74, f75, f76, f77, f78, f79, f80⟩ : ∃ (σ123 : MS), σ123 = (sA 79 a ((x106 : Int)) σ110) ∧ CX a 8 K 2154 7 T σ T109 σ123 ∧ (σ123.2.1 72 a = -1) ∧ (σ123.2.1 73 a = (x1 : Int)) ∧ (σ123.2.1 74 a = (x16 : Int)) ∧ (σ123.2.1 75 a = (x32 : Int)) ∧ (σ123.2.1 76 a = (x49 : Int)) ∧ (σ123.2.1 77 a = (x67 : Int)) ∧ (σ123.2.1 78 a = (x86 : Int)) ∧ (σ123.2.1 79 a = (x106 : Int)) ∧ (σ123.2.1 80 a = 0) := ⟨_, rfl, (cx113.put (by decide)), (rc_o (by decide) f72), (rc_o (by decide) f73), (rc_o (by decide) f74), (rc_o (by decide) f75), (rc_o (by decide) f76), (rc_o (by decide) f77), (rc_o (by decide) f78), ra_eq, (rc_o (by decide) f80)⟩
  rw [← eS125]
  refine tn_aload_n dX8_init_63 rfl 0 rfl ?_
  refine tn_aload_n dX8_init_64 rfl 1 rfl ?_
  refine tn_putFr (ci := 8) (i := 0) (n := 72) (r := true) (v := (fl : Int)) tyX8 tyX8_ok nmX8 dX8_init_65 rfl lay_8 (by decide) fl8_34 rfl rfl rfl (tyX8_ok 0 (by decide)) (vl_ref rfl).symm rfl rfl (cx126.r (by decide)) rfl rfl ?_
  obtain ⟨σ128, eS130, cx131, f72, f73, f74, f75, f76, f77, f78, f79, f80⟩ : ∃ (σ128 : MS), σ128 = (sA 72 a ((fl : Int)) σ123) ∧ CX a 8 K 2154 7 T σ T109 σ128 ∧ (σ128.2.1 72 a = (fl : Int)) ∧ (σ128.2.1 73 a = (x1 : Int)) ∧ (σ128.2.1 74 a = (x16 : Int)) ∧ (σ128.2.1 75 a = (x32 : Int)) ∧ (σ128.2.1 76 a = (x49 : Int)) ∧ (σ128.2.1 77 a = (x67 : Int)) ∧ (σ128.2.1 78 a = (x86 : Int)) ∧ (σ128.2.1 79 a = (x106 : Int)) ∧ (σ128.2.1 80 a = 0) := ⟨_, rfl, (cx126.put (by decide)), ra_eq, (rc_o (by decide) f73), (rc_o (by decide) f74), (rc_o (by decide) f75), (rc_o (by decide) f76), (rc_o (by decide) f77), (rc_o (by decide) f78), (rc_o (by decide) f79), (rc_o (by decide) f80)⟩
  rw [← eS130]
  refine tn_tag (ci := 8) (k := 38) (by decide) cx131.1 (by decide) ?_
  have hf9 : ∀ m, m < 111 → cls m = 8 → FO m 38 T109 (σ128.2.1 m a) := fun m hm9 hc9 => by
    have q9 := clsR_8 m hm9 hc9
    have q8 : m = 72 ∨ m = 73 ∨ m = 74 ∨ m = 75 ∨ m = 76 ∨ m = 77 ∨ m = 78 ∨ m = 79 ∨ m = 80 := by omega
    rcases q8 with q8 | q8 | q8 | q8 | q8 | q8 | q8 | q8 | q8
    · subst q8; rw [f72]; exact fo_72 (⟨_, rfl, tg1 o114⟩)
    · subst q8; rw [f73]; exact fo_73 (⟨_, rfl, AR.of o115 (by decide) (by decide)⟩)
    · subst q8; rw [f74]; exact fo_74 (⟨_, rfl, AR.of o116 (by decide) (by decide)⟩)
    · subst q8; rw [f75]; exact fo_75 (⟨_, rfl, AR.of o117 (by decide) (by decide)⟩)
    · subst q8; rw [f76]; exact fo_76 (⟨_, rfl, AR.of o118 (by decide) (by decide)⟩)
    · subst q8; rw [f77]; exact fo_77 (⟨_, rfl, AR.of o119 (by decide) (by decide)⟩)
    · subst q8; rw [f78]; exact fo_78 (⟨_, rfl, AR.of o120 (by decide) (by decide)⟩)
    · subst q8; rw [f79]; exact fo_79 (⟨_, rfl, AR.of o121 (by decide) (by decide)⟩)
    · subst q8; rw [f80]; exact fo_80 (by decide)
  exact tn_vret rfl dX8_init_68 ⟨rfl, tT_eq, cx131.2.1.tag cx131.1 (by decide) hf9 (fun h => absurd h (by decide)), cx131.2.2.1.tag (by rw [cx131.1]; decide) (by decide), cx131.2.2.2.1.tag, cx131.2.2.2.2.1, cx131.2.2.2.2.2, nx7.tag, nx41.tag⟩
