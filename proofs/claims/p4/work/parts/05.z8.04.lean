theorem cd_X7_init : Cond.code yX7_init cX7_init 2 none ∈ pWW := pw2 (List.mem_of_getElem? (i := 131) rfl) rfl
abbrev m_X7_init : MT := (yX7_init, cX7_init, 2, none)
theorem ok_X7_init : pOk m_X7_init := ⟨⟨cd_X7_init, ini_7⟩, by decide +kernel, ⟨by decide +kernel, by decide +kernel⟩, Nat.le_of_ble_eq_true rfl⟩
theorem np_X7_init : (parseMethodDescriptor yX7_init.desc).map (fun d => d.parameters.length) = some 1 := by decide +kernel
theorem im_X7_init : Cond.instanceMethod yX7_init ∈ pWW := pw2 (List.mem_of_getElem? (i := 130) rfl) rfl
theorem mlo7_3 : Cond.methodLink RX7 3 objectInit ∈ pWW := pw2 (List.mem_of_getElem? (i := 132) rfl) rfl
theorem dX7_init_0 : decode cX7_init 0 = .ok (.aload_n 0, 1) := by decide +kernel
theorem dX7_init_1 : decode cX7_init 1 = .ok (.invokespecial 3, 3) := by decide +kernel
theorem dX7_init_4 : decode cX7_init 4 = .ok (.aload_n 0, 1) := by decide +kernel
theorem dX7_init_5 : decode cX7_init 5 = .ok (.bipush 9, 2) := by decide +kernel
theorem dX7_init_7 : decode cX7_init 7 = .ok (.newarray .int, 2) := by decide +kernel
theorem dX7_init_9 : decode cX7_init 9 = .ok (.putfield 9, 3) := by decide +kernel
theorem dX7_init_12 : decode cX7_init 12 = .ok (.aload_n 0, 1) := by decide +kernel
theorem dX7_init_13 : decode cX7_init 13 = .ok (.bipush 9, 2) := by decide +kernel
theorem dX7_init_15 : decode cX7_init 15 = .ok (.newarray .int, 2) := by decide +kernel
theorem dX7_init_17 : decode cX7_init 17 = .ok (.putfield 15, 3) := by decide +kernel
theorem dX7_init_20 : decode cX7_init 20 = .ok (.aload_n 0, 1) := by decide +kernel
theorem dX7_init_21 : decode cX7_init 21 = .ok (.bipush 9, 2) := by decide +kernel
theorem dX7_init_23 : decode cX7_init 23 = .ok (.newarray .int, 2) := by decide +kernel
theorem dX7_init_25 : decode cX7_init 25 = .ok (.putfield 18, 3) := by decide +kernel
theorem dX7_init_28 : decode cX7_init 28 = .ok (.aload_n 0, 1) := by decide +kernel
theorem dX7_init_29 : decode cX7_init 29 = .ok (.bipush 108, 2) := by decide +kernel
theorem dX7_init_31 : decode cX7_init 31 = .ok (.newarray .int, 2) := by decide +kernel
theorem dX7_init_33 : decode cX7_init 33 = .ok (.putfield 21, 3) := by decide +kernel
theorem dX7_init_36 : decode cX7_init 36 = .ok (.aload_n 0, 1) := by decide +kernel
theorem dX7_init_37 : decode cX7_init 37 = .ok (.sipush 1728, 3) := by decide +kernel
theorem dX7_init_40 : decode cX7_init 40 = .ok (.newarray .int, 2) := by decide +kernel
theorem dX7_init_42 : decode cX7_init 42 = .ok (.putfield 24, 3) := by decide +kernel
theorem dX7_init_45 : decode cX7_init 45 = .ok (.aload_n 0, 1) := by decide +kernel
theorem dX7_init_46 : decode cX7_init 46 = .ok (.sipush 200, 3) := by decide +kernel
theorem dX7_init_49 : decode cX7_init 49 = .ok (.newarray .int, 2) := by decide +kernel
theorem dX7_init_51 : decode cX7_init 51 = .ok (.putfield 27, 3) := by decide +kernel
theorem dX7_init_54 : decode cX7_init 54 = .ok (.aload_n 0, 1) := by decide +kernel
theorem dX7_init_55 : decode cX7_init 55 = .ok (.aload_n 1, 1) := by decide +kernel
theorem dX7_init_56 : decode cX7_init 56 = .ok (.putfield 30, 3) := by decide +kernel
theorem dX7_init_59 : decode cX7_init 59 = .ok (.return_, 1) := by decide +kernel
set_option maxRecDepth 20000 in
theorem kc_X7_init_37 (d : Nat) {T : CT} {σ : MS} {a : Nat} {K : List Nat} {cs : Nat} (hraw : T a = (80 + 7, 0)) (hb : WTn T σ) (hcd : CD K T) (hdf : ∀ j, j < 200 → σ.2.1 j (a : Int) = dfF j) (h_cs : T cs = (5, 6)) : Tn (d + 1) m_X7_init 0 T σ [(0, .ref a), (1, .ref cs)] [] (fun ro T2 σ2 => ro = none ∧ T2 a = (37, 0) ∧ WTn T2 σ2 ∧ CD K T2 ∧ KPx a T σ T2 σ2 ∧ σ2.1 0 = σ.1 0 + (2063 : Nat) ∧ σ2.1 1 = σ.1 1 + (6 : Nat) ∧ NX 7 a T T2 ∧ NX 41 a T T2 ∧ σ2.2.1 57 (a : Int) = 0) := by
  have cx0 : CX a 7 K 0 0 T σ T σ := CX.begin hraw hb hcd
  have nx7 : NX 7 a T T := NX.begin (by decide)
  have nx41 : NX 41 a T T := NX.begin (by decide)
  have f55 : σ.2.1 55 a = -1 := (hdf 55 (by decide)).trans (by decide)
  have f56 : σ.2.1 56 a = 0 := (hdf 56 (by decide)).trans (by decide)
  have f57 : σ.2.1 57 a = 0 := (hdf 57 (by decide)).trans (by decide)
  have f58 : σ.2.1 58 a = 0 := (hdf 58 (by decide)).trans (by decide)
  have f59 : σ.2.1 59 a = -1 := (hdf 59 (by decide)).trans (by decide)
  have f60 : σ.2.1 60 a = -1 := (hdf 60 (by decide)).trans (by decide)
  have f61 : σ.2.1 61 a = -1 := (hdf 61 (by decide)).trans (by decide)
  have f62 : σ.2.1 62 a = -1 := (hdf 62 (by decide)).trans (by decide)
  have f63 : σ.2.1 63 a = -1 := (hdf 63 (by decide)).trans (by decide)
  have f64 : σ.2.1 64 a = -1 := (hdf 64 (by decide)).trans (by decide)
  have f65 : σ.2.1 65 a = 0 := (hdf 65 (by decide)).trans (by decide)
  have f66 : σ.2.1 66 a = 0 := (hdf 66 (by decide)).trans (by decide)
  have f67 : σ.2.1 67 a = 0 := (hdf 67 (by decide)).trans (by decide)
  have f68 : σ.2.1 68 a = 0 := (hdf 68 (by decide)).trans (by decide)
  have f69 : σ.2.1 69 a = -1 := (hdf 69 (by decide)).trans (by decide)
  have f70 : σ.2.1 70 a = 0 := (hdf 70 (by decide)).trans (by decide)
  have f71 : σ.2.1 71 a = 0 := (hdf 71 (by decide)).trans (by decide)
  refine tn_aload_n dX7_init_0 rfl 0 rfl ?_
  refine tn_objInit dX7_init_1 mlo7_3 oiI oiC (by omega) (Nat.le_of_ble_eq_true rfl) ?_
  refine tn_aload_n dX7_init_4 rfl 0 rfl ?_
  refine tn_bipush dX7_init_5 (by decide) ?_
  refine tn_newI (N := 9) (k := 15) dX7_init_7 arC_int (by decide) rfl (by decide) (fun x1 hx2 => ?_)
  have ne3 := cx0.ne hx2
  obtain ⟨T4, σ5, eT6, eS7, cx8, f55, f56, f57, f58, f59, f60, f61, f62, f63, f64, f65, f66, f67, f68, f69, f70, f71, o9, o10, nx7, nx41⟩ : ∃ (T4 : CT) (σ5 : MS), T4 = (tT T x1 15 9) ∧ σ5 = (rowS (1000 + x1) (fun _ => 0) (gh 9 σ)) ∧ CX a 7 K 9 1 T σ T4 σ5 ∧ (σ5.2.1 55 a = -1) ∧ (σ5.2.1 56 a = 0) ∧ (σ5.2.1 57 a = 0) ∧ (σ5.2.1 58 a = 0) ∧ (σ5.2.1 59 a = -1) ∧ (σ5.2.1 60 a = -1) ∧ (σ5.2.1 61 a = -1) ∧ (σ5.2.1 62 a = -1) ∧ (σ5.2.1 63 a = -1) ∧ (σ5.2.1 64 a = -1) ∧ (σ5.2.1 65 a = 0) ∧ (σ5.2.1 66 a = 0) ∧ (σ5.2.1 67 a = 0) ∧ (σ5.2.1 68 a = 0) ∧ (σ5.2.1 69 a = -1) ∧ (σ5.2.1 70 a = 0) ∧ (σ5.2.1 71 a = 0) ∧ (T4 cs = (5, 6)) ∧ (T4 x1 = (15, 9)) ∧ NX 7 a T T4 ∧ NX 41 a T T4 := ⟨_, _, rfl, rfl, (cx0.newI hx2 (by decide)), (by rw [rowS_ne (by omega)]; exact f55), (by rw [rowS_ne (by omega)]; exact f56), (by rw [rowS_ne (by omega)]; exact f57), (by rw [rowS_ne (by omega)]; exact f58), (by rw [rowS_ne (by omega)]; exact f59), (by rw [rowS_ne (by omega)]; exact f60), (by rw [rowS_ne (by omega)]; exact f61), (by rw [rowS_ne (by omega)]; exact f62), (by rw [rowS_ne (by omega)]; exact f63), (by rw [rowS_ne (by omega)]; exact f64), (by rw [rowS_ne (by omega)]; exact f65), (by rw [rowS_ne (by omega)]; exact f66), (by rw [rowS_ne (by omega)]; exact f67), (by rw [rowS_ne (by omega)]; exact f68), (by rw [rowS_ne (by omega)]; exact f69), (by rw [rowS_ne (by omega)]; exact f70), (by rw [rowS_ne (by omega)]; exact f71), (tk_keep h_cs (by decide) hx2), tT_eq, (nx7.mk9 (by decide)), (nx41.mk9 (by decide))⟩
  rw [← eT6]
  rw [← eS7]
  refine tn_putFr (ci := 7) (i := 4) (n := 59) (r := true) (v := (x1 : Int)) tyX7 tyX7_ok nmX7 dX7_init_9 rfl lay_7 (by decide) fl7_9 rfl rfl rfl (tyX7_ok 4 (by decide)) (vl_ref rfl).symm rfl rfl (cx8.r (by decide)) rfl rfl ?_
  obtain ⟨σ12, eS14, cx15, f55, f56, f57, f58, f59, f60, f61, f62, f63, f64, f65, f66, f67, f68, f69, f70, f71⟩ : ∃ (σ12 : MS), σ12 = (sA 59 a ((x1 : Int)) σ5) ∧ CX a 7 K 9 1 T σ T4 σ12 ∧ (σ12.2.1 55 a = -1) ∧ (σ12.2.1 56 a = 0) ∧ (σ12.2.1 57 a = 0) ∧ (σ12.2.1 58 a = 0) ∧ (σ12.2.1 59 a = (x1 : Int)) ∧ (σ12.2.1 60 a = -1) ∧ (σ12.2.1 61 a = -1) ∧ (σ12.2.1 62 a = -1) ∧ (σ12.2.1 63 a = -1) ∧ (σ12.2.1 64 a = -1) ∧ (σ12.2.1 65 a = 0) ∧ (σ12.2.1 66 a = 0) ∧ (σ12.2.1 67 a = 0) ∧ (σ12.2.1 68 a = 0) ∧ (σ12.2.1 69 a = -1) ∧ (σ12.2.1 70 a = 0) ∧ (σ12.2.1 71 a = 0) := ⟨_, rfl, (cx8.put (by decide)), (rc_o (by decide) f55), (rc_o (by decide) f56), (rc_o (by decide) f57), (rc_o (by decide) f58), ra_eq, (rc_o (by decide) f60), (rc_o (by decide) f61), (rc_o (by decide) f62), (rc_o (by decide) f63), (rc_o (by decide) f64), (rc_o (by decide) f65), (rc_o (by decide) f66), (rc_o (by decide) f67), (rc_o (by decide) f68), (rc_o (by decide) f69), (rc_o (by decide) f70), (rc_o (by decide) f71)⟩
  rw [← eS14]
  refine tn_aload_n dX7_init_12 rfl 0 rfl ?_
  refine tn_bipush dX7_init_13 (by decide) ?_
  refine tn_newI (N := 9) (k := 1) dX7_init_15 arC_int (by decide) rfl (by decide) (fun x16 hx17 => ?_)
  have ne18 := cx15.ne hx17
  obtain ⟨T19, σ20, eT21, eS22, cx23, f55, f56, f57, f58, f59, f60, f61, f62, f63, f64, f65, f66, f67, f68, f69, f70, f71, o24, o25, o26, nx7, nx41⟩ : ∃ (T19 : CT) (σ20 : MS), T19 = (tT T4 x16 1 9) ∧ σ20 = (rowS (1000 + x16) (fun _ => 0) (gh 9 σ12)) ∧ CX a 7 K 18 2 T σ T19 σ20 ∧ (σ20.2.1 55 a = -1) ∧ (σ20.2.1 56 a = 0) ∧ (σ20.2.1 57 a = 0) ∧ (σ20.2.1 58 a = 0) ∧ (σ20.2.1 59 a = (x1 : Int)) ∧ (σ20.2.1 60 a = -1) ∧ (σ20.2.1 61 a = -1) ∧ (σ20.2.1 62 a = -1) ∧ (σ20.2.1 63 a = -1) ∧ (σ20.2.1 64 a = -1) ∧ (σ20.2.1 65 a = 0) ∧ (σ20.2.1 66 a = 0) ∧ (σ20.2.1 67 a = 0) ∧ (σ20.2.1 68 a = 0) ∧ (σ20.2.1 69 a = -1) ∧ (σ20.2.1 70 a = 0) ∧ (σ20.2.1 71 a = 0) ∧ (T19 cs = (5, 6)) ∧ (T19 x1 = (15, 9)) ∧ (T19 x16 = (1, 9)) ∧ NX 7 a T T19 ∧ NX 41 a T T19 := ⟨_, _, rfl, rfl, (cx15.newI hx17 (by decide)), (by rw [rowS_ne (by omega)]; exact f55), (by rw [rowS_ne (by omega)]; exact f56), (by rw [rowS_ne (by omega)]; exact f57), (by rw [rowS_ne (by omega)]; exact f58), (by rw [rowS_ne (by omega)]; exact f59), (by rw [rowS_ne (by omega)]; exact f60), (by rw [rowS_ne (by omega)]; exact f61), (by rw [rowS_ne (by omega)]; exact f62), (by rw [rowS_ne (by omega)]; exact f63), (by rw [rowS_ne (by omega)]; exact f64), (by rw [rowS_ne (by omega)]; exact f65), (by rw [rowS_ne (by omega)]; exact f66), (by rw [rowS_ne (by omega)]; exact f67), (by rw [rowS_ne (by omega)]; exact f68), (by rw [rowS_ne (by omega)]; exact f69), (by rw [rowS_ne (by omega)]; exact f70), (by rw [rowS_ne (by omega)]; exact f71), (tk_keep o9 (by decide) hx17), (tk_keep o10 (by decide) hx17), tT_eq, (nx7.mk9 (by decide)), (nx41.mk9 (by decide))⟩
  rw [← eT21]
  rw [← eS22]
  refine tn_putFr (ci := 7) (i := 5) (n := 60) (r := true) (v := (x16 : Int)) tyX7 tyX7_ok nmX7 dX7_init_17 rfl lay_7 (by decide) fl7_15 rfl rfl rfl (tyX7_ok 5 (by decide)) (vl_ref rfl).symm rfl rfl (cx23.r (by decide)) rfl rfl ?_
  obtain ⟨σ28, eS30, cx31, f55, f56, f57, f58, f59, f60, f61, f62, f63, f64, f65, f66, f67, f68, f69, f70, f71⟩ : ∃ (σ28 : MS), σ28 = (sA 60 a ((x16 : Int)) σ20) ∧ CX a 7 K 18 2 T σ T19 σ28 ∧ (σ28.2.1 55 a = -1) ∧ (σ28.2.1 56 a = 0) ∧ (σ28.2.1 57 a = 0) ∧ (σ28.2.1 58 a = 0) ∧ (σ28.2.1 59 a = (x1 : Int)) ∧ (σ28.2.1 60 a = (x16 : Int)) ∧ (σ28.2.1 61 a = -1) ∧ (σ28.2.1 62 a = -1) ∧ (σ28.2.1 63 a = -1) ∧ (σ28.2.1 64 a = -1) ∧ (σ28.2.1 65 a = 0) ∧ (σ28.2.1 66 a = 0) ∧ (σ28.2.1 67 a = 0) ∧ (σ28.2.1 68 a = 0) ∧ (σ28.2.1 69 a = -1) ∧ (σ28.2.1 70 a = 0) ∧ (σ28.2.1 71 a = 0) := ⟨_, rfl, (cx23.put (by decide)), (rc_o (by decide) f55), (rc_o (by decide) f56), (rc_o (by decide) f57), (rc_o (by decide) f58), (rc_o (by decide) f59), ra_eq, (rc_o (by decide) f61), (rc_o (by decide) f62), (rc_o (by decide) f63), (rc_o (by decide) f64), (rc_o (by decide) f65), (rc_o (by decide) f66), (rc_o (by decide) f67), (rc_o (by decide) f68), (rc_o (by decide) f69), (rc_o (by decide) f70), (rc_o (by decide) f71)⟩
  rw [← eS30]
  refine tn_aload_n dX7_init_20 rfl 0 rfl ?_
  refine tn_bipush dX7_init_21 (by decide) ?_
  refine tn_newI (N := 9) (k := 1) dX7_init_23 arC_int (by decide) rfl (by decide) (fun x32 hx33 => ?_)
  have ne34 := cx31.ne hx33
  obtain ⟨T35, σ36, eT37, eS38, cx39, f55, f56, f57, f58, f59, f60, f61, f62, f63, f64, f65, f66, f67, f68, f69, f70, f71, o40, o41, o42, o43, nx7, nx41⟩ : ∃ (T35 : CT) (σ36 : MS), T35 = (tT T19 x32 1 9) ∧ σ36 = (rowS (1000 + x32) (fun _ => 0) (gh 9 σ28)) ∧ CX a 7 K 27 3 T σ T35 σ36 ∧ (σ36.2.1 55 a = -1) ∧ (σ36.2.1 56 a = 0) ∧ (σ36.2.1 57 a = 0) ∧ (σ36.2.1 58 a = 0) ∧ (σ36.2.1 59 a = (x1 : Int)) ∧ (σ36.2.1 60 a = (x16 : Int)) ∧ (σ36.2.1 61 a = -1) ∧ (σ36.2.1 62 a = -1) ∧ (σ36.2.1 63 a = -1) ∧ (σ36.2.1 64 a = -1) ∧ (σ36.2.1 65 a = 0) ∧ (σ36.2.1 66 a = 0) ∧ (σ36.2.1 67 a = 0) ∧ (σ36.2.1 68 a = 0) ∧ (σ36.2.1 69 a = -1) ∧ (σ36.2.1 70 a = 0) ∧ (σ36.2.1 71 a = 0) ∧ (T35 cs = (5, 6)) ∧ (T35 x1 = (15, 9)) ∧ (T35 x16 = (1, 9)) ∧ (T35 x32 = (1, 9)) ∧ NX 7 a T T35 ∧ NX 41 a T T35 := ⟨_, _, rfl, rfl, (cx31.newI hx33 (by decide)), (by rw [rowS_ne (by omega)]; exact f55), (by rw [rowS_ne (by omega)]; exact f56), (by rw [rowS_ne (by omega)]; exact f57), (by rw [rowS_ne (by omega)]; exact f58), (by rw [rowS_ne (by omega)]; exact f59), (by rw [rowS_ne (by omega)]; exact f60), (by rw [rowS_ne (by omega)]; exact f61), (by rw [rowS_ne (by omega)]; exact f62), (by rw [rowS_ne (by omega)]; exact f63), (by rw [rowS_ne (by omega)]; exact f64), (by rw [rowS_ne (by omega)]; exact f65), (by rw [rowS_ne (by omega)]; exact f66), (by rw [rowS_ne (by omega)]; exact f67), (by rw [rowS_ne (by omega)]; exact f68), (by rw [rowS_ne (by omega)]; exact f69), (by rw [rowS_ne (by omega)]; exact f70), (by rw [rowS_ne (by omega)]; exact f71), (tk_keep o24 (by decide) hx33), (tk_keep o25 (by decide) hx33), (tk_keep o26 (by decide) hx33), tT_eq, (nx7.mk9 (by decide)), (nx41.mk9 (by decide))⟩
  rw [← eT37]
  rw [← eS38]
  refine tn_putFr (ci := 7) (i := 6) (n := 61) (r := true) (v := (x32 : Int)) tyX7 tyX7_ok nmX7 dX7_init_25 rfl lay_7 (by decide) fl7_18 rfl rfl rfl (tyX7_ok 6 (by decide)) (vl_ref rfl).symm rfl rfl (cx39.r (by decide)) rfl rfl ?_
  obtain ⟨σ45, eS47, cx48, f55, f56, f57, f58, f59, f60, f61, f62, f63, f64, f65, f66, f67, f68, f69, f70, f71⟩ : ∃ (σ45 : MS), σ45 = (sA 61 a ((x32 : Int)) σ36) ∧ CX a 7 K 27 3 T σ T35 σ45 ∧ (σ45.2.1 55 a = -1) ∧ (σ45.2.1 56 a = 0) ∧ (σ45.2.1 57 a = 0) ∧ (σ45.2.1 58 a = 0) ∧ (σ45.2.1 59 a = (x1 : Int)) ∧ (σ45.2.1 60 a = (x16 : Int)) ∧ (σ45.2.1 61 a = (x32 : Int)) ∧ (σ45.2.1 62 a = -1) ∧ (σ45.2.1 63 a = -1) ∧ (σ45.2.1 64 a = -1) ∧ (σ45.2.1 65 a = 0) ∧ (σ45.2.1 66 a = 0) ∧ (σ45.2.1 67 a = 0) ∧ (σ45.2.1 68 a = 0) ∧ (σ45.2.1 69 a = -1) ∧ (σ45.2.1 70 a = 0) ∧ (σ45.2.1 71 a = 0) := ⟨_, rfl, (cx39.put (by decide)), (rc_o (by decide) f55), (rc_o (by decide) f56), (rc_o (by decide) f57), (rc_o (by decide) f58), (rc_o (by decide) f59), (rc_o (by decide) f60), ra_eq, (rc_o (by decide) f62), (rc_o (by decide) f63), (rc_o (by decide) f64), (rc_o (by decide) f65), (rc_o (by decide) f66), (rc_o (by decide) f67), (rc_o (by decide) f68), (rc_o (by decide) f69), (rc_o (by decide) f70), (rc_o (by decide) f71)⟩
  rw [← eS47]
  refine tn_aload_n dX7_init_28 rfl 0 rfl ?_
  refine tn_bipush dX7_init_29 (by decide) ?_
  refine tn_newI (N := 108) (k := 1) dX7_init_31 arC_int (by decide) rfl (by decide) (fun x49 hx50 => ?_)
  have ne51 := cx48.ne hx50
  obtain ⟨T52, σ53, eT54, eS55, cx56, f55, f56, f57, f58, f59, f60, f61, f62, f63, f64, f65, f66, f67, f68, f69, f70, f71, o57, o58, o59, o60, o61, nx7, nx41⟩ : ∃ (T52 : CT) (σ53 : MS), T52 = (tT T35 x49 1 108) ∧ σ53 = (rowS (1000 + x49) (fun _ => 0) (gh 108 σ45)) ∧ CX a 7 K 135 4 T σ T52 σ53 ∧ (σ53.2.1 55 a = -1) ∧ (σ53.2.1 56 a = 0) ∧ (σ53.2.1 57 a = 0) ∧ (σ53.2.1 58 a = 0) ∧ (σ53.2.1 59 a = (x1 : Int)) ∧ (σ53.2.1 60 a = (x16 : Int)) ∧ (σ53.2.1 61 a = (x32 : Int)) ∧ (σ53.2.1 62 a = -1) ∧ (σ53.2.1 63 a = -1) ∧ (σ53.2.1 64 a = -1) ∧ (σ53.2.1 65 a = 0) ∧ (σ53.2.1 66 a = 0) ∧ (σ53.2.1 67 a = 0) ∧ (σ53.2.1 68 a = 0) ∧ (σ53.2.1 69 a = -1) ∧ (σ53.2.1 70 a = 0) ∧ (σ53.2.1 71 a = 0) ∧ (T52 cs = (5, 6)) ∧ (T52 x1 = (15, 9)) ∧ (T52 x16 = (1, 9)) ∧ (T52 x32 = (1, 9)) ∧ (T52 x49 = (1, 108)) ∧ NX 7 a T T52 ∧ NX 41 a T T52 := ⟨_, _, rfl, rfl, (cx48.newI hx50 (by decide)), (by rw [rowS_ne (by omega)]; exact f55), (by rw [rowS_ne (by omega)]; exact f56), (by rw [rowS_ne (by omega)]; exact f57), (by rw [rowS_ne (by omega)]; exact f58), (by rw [rowS_ne (by omega)]; exact f59), (by rw [rowS_ne (by omega)]; exact f60), (by rw [rowS_ne (by omega)]; exact f61), (by rw [rowS_ne (by omega)]; exact f62), (by rw [rowS_ne (by omega)]; exact f63), (by rw [rowS_ne (by omega)]; exact f64), (by rw [rowS_ne (by omega)]; exact f65), (by rw [rowS_ne (by omega)]; exact f66), (by rw [rowS_ne (by omega)]; exact f67), (by rw [rowS_ne (by omega)]; exact f68), (by rw [rowS_ne (by omega)]; exact f69), (by rw [rowS_ne (by omega)]; exact f70), (by rw [rowS_ne (by omega)]; exact f71), (tk_keep o40 (by decide) hx50), (tk_keep o41 (by decide) hx50), (tk_keep o42 (by decide) hx50), (tk_keep o43 (by decide) hx50), tT_eq, (nx7.mk9 (by decide)), (nx41.mk9 (by decide))⟩
  rw [← eT54]
  rw [← eS55]
  refine tn_putFr (ci := 7) (i := 7) (n := 62) (r := true) (v := (x49 : Int)) tyX7 tyX7_ok nmX7 dX7_init_33 rfl lay_7 (by decide) fl7_21 rfl rfl rfl (tyX7_ok 7 (by decide)) (vl_ref rfl).symm rfl rfl (cx56.r (by decide)) rfl rfl ?_
  obtain ⟨σ63, eS65, cx66, f55, f56, f57, f58, f59, f60, f61, f62, f63, f64, f65, f66, f67, f68, f69, f70, f71⟩ : ∃ (σ63 : MS), σ63 = (sA 62 a ((x49 : Int)) σ53) ∧ CX a 7 K 135 4 T σ T52 σ63 ∧ (σ63.2.1 55 a = -1) ∧ (σ63.2.1 56 a = 0) ∧ (σ63.2.1 57 a = 0) ∧ (σ63.2.1 58 a = 0) ∧ (σ63.2.1 59 a = (x1 : Int)) ∧ (σ63.2.1 60 a = (x16 : Int)) ∧ (σ63.2.1 61 a = (x32 : Int)) ∧ (σ63.2.1 62 a = (x49 : Int)) ∧ (σ63.2.1 63 a = -1) ∧ (σ63.2.1 64 a = -1) ∧ (σ63.2.1 65 a = 0) ∧ (σ63.2.1 66 a = 0) ∧ (σ63.2.1 67 a = 0) ∧ (σ63.2.1 68 a = 0) ∧ (σ63.2.1 69 a = -1) ∧ (σ63.2.1 70 a = 0) ∧ (σ63.2.1 71 a = 0) := ⟨_, rfl, (cx56.put (by decide)), (rc_o (by decide) f55), (rc_o (by decide) f56), (rc_o (by decide) f57), (rc_o (by decide) f58), (rc_o (by decide) f59), (rc_o (by decide) f60), (rc_o (by decide) f61), ra_eq, (rc_o (by decide) f63), (rc_o (by decide) f64), (rc_o (by decide) f65), (rc_o (by decide) f66), (rc_o (by decide) f67), (rc_o (by decide) f68), (rc_o (by decide) f69), (rc_o (by decide) f70), (rc_o (by decide) f71)⟩
  rw [← eS65]
  refine tn_aload_n dX7_init_36 rfl 0 rfl ?_
  refine tn_sipush dX7_init_37 (by decide) ?_
  refine tn_newI (N := 1728) (k := 1) dX7_init_40 arC_int (by decide) rfl (by decide) (fun x67 hx68 => ?_)
  have ne69 := cx66.ne hx68
  obtain ⟨T70, σ71, eT72, eS73, cx74, f55, f56, f57, f58, f59, f60, f61, f62, f63, f64, f65, f66, f67, f68, f69, f70, f71, o75, o76, o77, o78, o79, o80, nx7, nx41⟩ : ∃ (T70 : CT) (σ71 : MS), T70 = (tT T52 x67 1 1728) ∧ σ71 = (rowS (1000 + x67) (fun _ => 0) (gh 1728 σ63)) ∧ CX a 7 K 1863 5 T σ T70 σ71 ∧ (σ71.2.1 55 a = -1) ∧ (σ71.2.1 56 a = 0) ∧ (σ71.2.1 57 a = 0) ∧ (σ71.2.1 58 a = 0) ∧ (σ71.2.1 59 a = (x1 : Int)) ∧ (σ71.2.1 60 a = (x16 : Int)) ∧ (σ71.2.1 61 a = (x32 : Int)) ∧ (σ71.2.1 62 a = (x49 : Int)) ∧ (σ71.2.1 63 a = -1) ∧ (σ71.2.1 64 a = -1) ∧ (σ71.2.1 65 a = 0) ∧ (σ71.2.1 66 a = 0) ∧ (σ71.2.1 67 a = 0) ∧ (σ71.2.1 68 a = 0) ∧ (σ71.2.1 69 a = -1) ∧ (σ71.2.1 70 a = 0) ∧ (σ71.2.1 71 a = 0) ∧ (T70 cs = (5, 6)) ∧ (T70 x1 = (15, 9)) ∧ (T70 x16 = (1, 9)) ∧ (T70 x32 = (1, 9)) ∧ (T70 x49 = (1, 108)) ∧ (T70 x67 = (1, 1728)) ∧ NX 7 a T T70 ∧ NX 41 a T T70 := ⟨_, _, rfl, rfl, (cx66.newI hx68 (by decide)), (by rw [rowS_ne (by omega)]; exact f55), (by rw [rowS_ne (by omega)]; exact f56), (by rw [rowS_ne (by omega)]; exact f57), (by rw [rowS_ne (by omega)]; exact f58), (by rw [rowS_ne (by omega)]; exact f59), (by rw [rowS_ne (by omega)]; exact f60), (by rw [rowS_ne (by omega)]; exact f61), (by rw [rowS_ne (by omega)]; exact f62), (by rw [rowS_ne (by omega)]; exact f63), (by rw [rowS_ne (by omega)]; exact f64), (by rw [rowS_ne (by omega)]; exact f65), (by rw [rowS_ne (by omega)]; exact f66), (by rw [rowS_ne (by omega)]; exact f67), (by rw [rowS_ne (by omega)]; exact f68), (by rw [rowS_ne (by omega)]; exact f69), (by rw [rowS_ne (by omega)]; exact f70), (by rw [rowS_ne (by omega)]; exact f71), (tk_keep o57 (by decide) hx68), (tk_keep o58 (by decide) hx68), (tk_keep o59 (by decide) hx68), (tk_keep o60 (by decide) hx68), (tk_keep o61 (by decide) hx68), tT_eq, (nx7.mk9 (by decide)), (nx41.mk9 (by decide))⟩
  rw [← eT72]
  rw [← eS73]
  refine tn_putFr (ci := 7) (i := 8) (n := 63) (r := true) (v := (x67 : Int)) tyX7 tyX7_ok nmX7 dX7_init_42 rfl lay_7 (by decide) fl7_24 rfl rfl rfl (tyX7_ok 8 (by decide)) (vl_ref rfl).symm rfl rfl (cx74.r (by decide)) rfl rfl ?_
  obtain ⟨σ82, eS84, cx85, f55, f56, f57, f58, f59, f60, f61, f62, f63, f64, f65, f66, f67, f68, f69, f70, f71⟩ : ∃ (σ82 : MS), σ82 = (sA 63 a ((x67 : Int)) σ71) ∧ CX a 7 K 1863 5 T σ T70 σ82 ∧ (σ82.2.1 55 a = -1) ∧ (σ82.2.1 56 a = 0) ∧ (σ82.2.1 57 a = 0) ∧ (σ82.2.1 58 a = 0) ∧ (σ82.2.1 59 a = (x1 : Int)) ∧ (σ82.2.1 60 a = (x16 : Int)) ∧ (σ82.2.1 61 a = (x32 : Int)) ∧ (σ82.2.1 62 a = (x49 : Int)) ∧ (σ82.2.1 63 a = (x67 : Int)) ∧ (σ82.2.1 64 a = -1) ∧ (σ82.2.1 65 a = 0) ∧ (σ82.2.1 66 a = 0) ∧ (σ82.2.1 67 a = 0) ∧ (σ82.2.1 68 a = 0) ∧ (σ82.2.1 69 a = -1) ∧ (σ82.2.1 70 a = 0) ∧ (σ82.2.1 71 a = 0) := ⟨_, rfl, (cx74.put (by decide)), (rc_o (by decide) f55), (rc_o (by decide) f56), (rc_o (by decide) f57), (rc_o (by decide) f58), (rc_o (by decide) f59), (rc_o (by decide) f60), (rc_o (by decide) f61), (rc_o (by decide) f62), ra_eq, (rc_o (by decide) f64), (rc_o (by decide) f65), (rc_o (by decide) f66), (rc_o (by decide) f67), (rc_o (by decide) f68), (rc_o (by decide) f69), (rc_o (by decide) f70), (rc_o (by decide) f71)⟩
  rw [← eS84]
  refine tn_aload_n dX7_init_45 rfl 0 rfl ?_
  refine tn_sipush dX7_init_46 (by decide) ?_
  refine tn_newI (N := 200) (k := 1) dX7_init_49 arC_int (by decide) rfl (by decide) (fun x86 hx87 => ?_)
  have ne88 := cx85.ne hx87
  obtain ⟨T89, σ90, eT91, eS92, cx93, f55, f56, f57, f58, f59, f60, f61, f62, f63, f64, f65, f66, f67, f68, f69, f70, f71, o94, o95, o96, o97, o98, o99, o100, nx7, nx41⟩ : ∃ (T89 : CT) (σ90 : MS), T89 = (tT T70 x86 1 200) ∧ σ90 = (rowS (1000 + x86) (fun _ => 0) (gh 200 σ82)) ∧ CX a 7 K 2063 6 T σ T89 σ90 ∧ (σ90.2.1 55 a = -1) ∧ (σ90.2.1 56 a = 0) ∧ (σ90.2.1 57 a = 0) ∧ (σ90.2.1 58 a = 0) ∧ (σ90.2.1 59 a = (x1 : Int)) ∧ (σ90.2.1 60 a = (x16 : Int)) ∧ (σ90.2.1 61 a = (x32 : Int)) ∧ (σ90.2.1 62 a = (x49 : Int)) ∧ (σ90.2.1 63 a = (x67 : Int)) ∧ (σ90.2.1 64 a = -1) ∧ (σ90.2.1 65 a = 0) ∧ (σ90.2.1 66 a = 0) ∧ (σ90.2.1 67 a = 0) ∧ (σ90.2.1 68 a = 0) ∧ (σ90.2.1 69 a = -1) ∧ (σ90.2.1 70 a = 0) ∧ (σ90.2.1 71 a = 0) ∧ (T89 cs = (5, 6)) ∧ (T89 x1 = (15, 9)) ∧ (T89 x16 = (1, 9)) ∧ (T89 x32 = (1, 9)) ∧ (T89 x49 = (1, 108)) ∧ (T89 x67 = (1, 1728)) ∧ (T89 x86 = (1, 200)) ∧ NX 7 a T T89 ∧ NX 41 a T T89 := ⟨_, _, rfl, rfl, (cx85.newI hx87 (by decide)), (by rw [rowS_ne (by omega)]; exact f55), (by rw [rowS_ne (by omega)]; exact f56), (by rw [rowS_ne (by omega)]; exact f57), (by rw [rowS_ne (by omega)]; exact f58), (by rw [rowS_ne (by omega)]; exact f59), (by rw [rowS_ne (by omega)]; exact f60), (by rw [rowS_ne (by omega)]; exact f61), (by rw [rowS_ne (by omega)]; exact f62), (by rw [rowS_ne (by omega)]; exact f63), (by rw [rowS_ne (by omega)]; exact f64), (by rw [rowS_ne (by omega)]; exact f65), (by rw [rowS_ne (by omega)]; exact f66), (by rw [rowS_ne (by omega)]; exact f67), (by rw [rowS_ne (by omega)]; exact f68), (by rw [rowS_ne (by omega)]; exact f69), (by rw [rowS_ne (by omega)]; exact f70), (by rw [rowS_ne (by omega)]; exact f71), (tk_keep o75 (by decide) hx87), (tk_keep o76 (by decide) hx87), (tk_keep o77 (by decide) hx87), (tk_keep o78 (by decide) hx87), (tk_keep o79 (by decide) hx87), (tk_keep o80 (by decide) hx87), tT_eq, (nx7.mk9 (by decide)), (nx41.mk9 (by decide))⟩
  rw [← eT91]
  rw [← eS92]
  refine tn_putFr (ci := 7) (i := 9) (n := 64) (r := true) (v := (x86 : Int)) tyX7 tyX7_ok nmX7 dX7_init_51 rfl lay_7 (by decide) fl7_27 rfl rfl rfl (tyX7_ok 9 (by decide)) (vl_ref rfl).symm rfl rfl (cx93.r (by decide)) rfl rfl ?_
  obtain ⟨σ102, eS104, cx105, f55, f56, f57, f58, f59, f60, f61, f62, f63, f64, f65, f66, f67, f68, f69, f70, f71⟩ : ∃ (σ102 : MS), σ102 = (sA 64 a ((x86 : Int)) σ90) ∧ CX a 7 K 2063 6 T σ T89 σ102 ∧ (σ102.2.1 55 a = -1) ∧ (σ102.2.1 56 a = 0) ∧ (σ102.2.1 57 a = 0) ∧ (σ102.2.1 58 a = 0) ∧ (σ102.2.1 59 a = (x1 : Int)) ∧ (σ102.2.1 60 a = (x16 : Int)) ∧ (σ102.2.1 61 a = (x32 : Int)) ∧ (σ102.2.1 62 a = (x49 : Int)) ∧ (σ102.2.1 63 a = (x67 : Int)) ∧ (σ102.2.1 64 a = (x86 : Int)) ∧ (σ102.2.1 65 a = 0) ∧ (σ102.2.1 66 a = 0) ∧ (σ102.2.1 67 a = 0) ∧ (σ102.2.1 68 a = 0) ∧ (σ102.2.1 69 a = -1) ∧ (σ102.2.1 70 a = 0) ∧ (σ102.2.1 71 a = 0) := ⟨_, rfl, (cx93.put (by decide)), (rc_o (by decide) f55), (rc_o (by decide) f56), (rc_o (by decide) f57), (rc_o (by decide) f58), (rc_o (by decide) f59), (rc_o (by decide) f60), (rc_o (by decide) f61), (rc_o (by decide) f62), (rc_o (by decide) f63), ra_eq, (rc_o (by decide) f65), (rc_o (by decide) f66), (rc_o (by decide) f67), (rc_o (by decide) f68), (rc_o (by decide) f69), (rc_o (by decide) f70), (rc_o (by decide) f71)⟩
  rw [← eS104]
  refine tn_aload_n dX7_init_54 rfl 0 rfl ?_
  refine tn_aload_n dX7_init_55 rfl 1 rfl ?_
  refine tn_putFr (ci := 7) (i := 0) (n := 55) (r := true) (v := (cs : Int)) tyX7 tyX7_ok nmX7 dX7_init_56 rfl lay_7 (by decide) fl7_30 rfl rfl rfl (tyX7_ok 0 (by decide)) (vl_ref rfl).symm rfl rfl (cx105.r (by decide)) rfl rfl ?_
  obtain ⟨σ107, eS109, cx110, f55, f56, f57, f58, f59, f60, f61, f62, f63, f64, f65, f66, f67, f68, f69, f70, f71⟩ : ∃ (σ107 : MS), σ107 = (sA 55 a ((cs : Int)) σ102) ∧ CX a 7 K 2063 6 T σ T89 σ107 ∧ (σ107.2.1 55 a = (cs : Int)) ∧ (σ107.2.1 56 a = 0) ∧ (σ107.2.1 57 a = 0) ∧ (σ107.2.1 58 a = 0) ∧ (σ107.2.1 59 a = (x1 : Int)) ∧ (σ107.2.1 60 a = (x16 : Int)) ∧ (σ107.2.1 61 a = (x32 : Int)) ∧ (σ107.2.1 62 a = (x49 : Int)) ∧ (σ107.2.1 63 a = (x67 : Int)) ∧ (σ107.2.1 64 a = (x86 : Int)) ∧ (σ107.2.1 65 a = 0) ∧ (σ107.2.1 66 a = 0) ∧ (σ107.2.1 67 a = 0) ∧ (σ107.2.1 68 a = 0) ∧ (σ107.2.1 69 a = -1) ∧ (σ107.2.1 70 a = 0) ∧ (σ107.2.1 71 a = 0) := ⟨_, rfl, (cx105.put (by decide)), ra_eq, (rc_o (by decide) f56), (rc_o (by decide) f57), (rc_o (by decide) f58), (rc_o (by decide) f59), (rc_o (by decide) f60), (rc_o (by decide) f61), (rc_o (by decide) f62), (rc_o (by decide) f63), (rc_o (by decide) f64), (rc_o (by decide) f65), (rc_o (by decide) f66), (rc_o (by decide) f67), (rc_o (by decide) f68), (rc_o (by decide) f69), (rc_o (by decide) f70), (rc_o (by decide) f71)⟩
  rw [← eS109]
  refine tn_tag (ci := 7) (k := 37) (by decide) cx110.1 (by decide) ?_
  have hf9 : ∀ m, m < 111 → cls m = 7 → FO m 37 T89 (σ107.2.1 m a) := fun m hm9 hc9 => by
    have q9 := clsR_7 m hm9 hc9
    have q8 : m = 55 ∨ m = 56 ∨ m = 57 ∨ m = 58 ∨ m = 59 ∨ m = 60 ∨ m = 61 ∨ m = 62 ∨ m = 63 ∨ m = 64 ∨ m = 65 ∨ m = 66 ∨ m = 67 ∨ m = 68 ∨ m = 69 ∨ m = 70 ∨ m = 71 := by omega
    rcases q8 with q8 | q8 | q8 | q8 | q8 | q8 | q8 | q8 | q8 | q8 | q8 | q8 | q8 | q8 | q8 | q8 | q8
    · subst q8; rw [f55]; exact fo_55 ⟨_, rfl, by rw [o94], fun h => absurd h (by decide), fun _ => tg1 o94⟩
    · subst q8; rw [f56]; exact fo_56 (by decide)
    · subst q8; rw [f57]; exact fo_57 (by decide)
    · subst q8; rw [f58]; exact fo_58 (by decide)
    · subst q8; rw [f59]; exact fo_59 (⟨_, rfl, AR.of o95 (by decide) (by decide)⟩)
    · subst q8; rw [f60]; exact fo_60 (⟨_, rfl, AR.of o96 (by decide) (by decide)⟩)
    · subst q8; rw [f61]; exact fo_61 ⟨_, rfl, by rw [o97], fun h => absurd h (by decide), fun _ => tg1 o97⟩
    · subst q8; rw [f62]; exact fo_62 (⟨_, rfl, AR.of o98 (by decide) (by decide)⟩)
    · subst q8; rw [f63]; exact fo_63 (⟨_, rfl, AR.of o99 (by decide) (by decide)⟩)
    · subst q8; rw [f64]; exact fo_64 (⟨_, rfl, AR.of o100 (by decide) (by decide)⟩)
    · subst q8; rw [f65]; exact fo_65 (by decide)
    · subst q8; rw [f66]; exact fo_66 (by decide)
    · subst q8; rw [f67]; exact fo_67 (by decide)
    · subst q8; rw [f68]; exact fo_68 (by decide)
    · subst q8; rw [f69]; exact fo_69 (Or.inl (by decide))
    · subst q8; rw [f70]; exact fo_70 (by decide)
    · subst q8; rw [f71]; exact fo_71 (by decide)
  exact tn_vret rfl dX7_init_59 ⟨rfl, tT_eq, cx110.2.1.tag cx110.1 (by decide) hf9 (fun h => absurd h (by decide)), cx110.2.2.1.tag (by rw [cx110.1]; decide) (by decide), cx110.2.2.2.1.tag, cx110.2.2.2.2.1, cx110.2.2.2.2.2, nx7.tag, nx41.tag, f57⟩
