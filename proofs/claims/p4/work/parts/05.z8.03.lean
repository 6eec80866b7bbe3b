set_option maxRecDepth 20000 in
theorem kc_X1_init_50 (d : Nat) {T : CT} {σ : MS} {a : Nat} {K : List Nat} (hraw : T a = (80 + 1, 0)) (hb : WTn T σ) (hcd : CD K T) (hdf : ∀ j, j < 200 → σ.2.1 j (a : Int) = dfF j) : Tn (d + 1) m_X1_init 0 T σ [(0, .ref a)] [] (fun ro T2 σ2 => ro = none ∧ T2 a = (50, 0) ∧ WTn T2 σ2 ∧ CD (a :: K) T2 ∧ KPx a T σ T2 σ2 ∧ σ2.1 0 = σ.1 0 + (413 : Nat) ∧ σ2.1 1 = σ.1 1 + (7 : Nat) ∧ NX 7 a T T2 ∧ NX 41 a T T2) := by
  have cx0 : CX a 1 K 0 0 T σ T σ := CX.begin hraw hb hcd
  have nx7 : NX 7 a T T := NX.begin (by decide)
  have nx41 : NX 41 a T T := NX.begin (by decide)
  have f5 : σ.2.1 5 a = -1 := (hdf 5 (by decide)).trans (by decide)
  have f6 : σ.2.1 6 a = 0 := (hdf 6 (by decide)).trans (by decide)
  have f7 : σ.2.1 7 a = 0 := (hdf 7 (by decide)).trans (by decide)
  have f8 : σ.2.1 8 a = 0 := (hdf 8 (by decide)).trans (by decide)
  have f9 : σ.2.1 9 a = 0 := (hdf 9 (by decide)).trans (by decide)
  have f10 : σ.2.1 10 a = 0 := (hdf 10 (by decide)).trans (by decide)
  have f11 : σ.2.1 11 a = -1 := (hdf 11 (by decide)).trans (by decide)
  have f12 : σ.2.1 12 a = -1 := (hdf 12 (by decide)).trans (by decide)
  have f13 : σ.2.1 13 a = -1 := (hdf 13 (by decide)).trans (by decide)
  have f14 : σ.2.1 14 a = -1 := (hdf 14 (by decide)).trans (by decide)
  have f15 : σ.2.1 15 a = -1 := (hdf 15 (by decide)).trans (by decide)
  have f16 : σ.2.1 16 a = -1 := (hdf 16 (by decide)).trans (by decide)
  refine tn_aload_n dX1_init_0 rfl 0 rfl ?_
  refine tn_objInit dX1_init_1 mlo1_3 oiI oiC (by omega) (Nat.le_of_ble_eq_true rfl) ?_
  refine tn_aload_n dX1_init_4 rfl 0 rfl ?_
  refine tn_sipush dX1_init_5 (by decide) ?_
  refine tn_newI (N := 208) (k := 1) dX1_init_8 arC_int (by decide) rfl (by decide) (fun x1 hx2 => ?_)
  have ne3 := cx0.ne hx2
  obtain ⟨T4, σ5, eT6, eS7, cx8, f5, f6, f7, f8, f9, f10, f11, f12, f13, f14, f15, f16, o9, nx7, nx41⟩ : ∃ (T4 : CT) (σ5 : MS), T4 = (tT T x1 1 208) ∧ σ5 = (rowS (1000 + x1) (fun _ => 0) (gh 208 σ)) ∧ CX a 1 K 208 1 T σ T4 σ5 ∧ (σ5.2.1 5 a = -1) ∧ (σ5.2.1 6 a = 0) ∧ (σ5.2.1 7 a = 0) ∧ (σ5.2.1 8 a = 0) ∧ (σ5.2.1 9 a = 0) ∧ (σ5.2.1 10 a = 0) ∧ (σ5.2.1 11 a = -1) ∧ (σ5.2.1 12 a = -1) ∧ (σ5.2.1 13 a = -1) ∧ (σ5.2.1 14 a = -1) ∧ (σ5.2.1 15 a = -1) ∧ (σ5.2.1 16 a = -1) ∧ (T4 x1 = (1, 208)) ∧ NX 7 a T T4 ∧ NX 41 a T T4 := ⟨_, _, rfl, rfl, (cx0.newI hx2 (by decide)), (by rw [rowS_ne (by omega)]; exact f5), (by rw [rowS_ne (by omega)]; exact f6), (by rw [rowS_ne (by omega)]; exact f7), (by rw [rowS_ne (by omega)]; exact f8), (by rw [rowS_ne (by omega)]; exact f9), (by rw [rowS_ne (by omega)]; exact f10), (by rw [rowS_ne (by omega)]; exact f11), (by rw [rowS_ne (by omega)]; exact f12), (by rw [rowS_ne (by omega)]; exact f13), (by rw [rowS_ne (by omega)]; exact f14), (by rw [rowS_ne (by omega)]; exact f15), (by rw [rowS_ne (by omega)]; exact f16), tT_eq, (nx7.mk9 (by decide)), (nx41.mk9 (by decide))⟩
  rw [← eT6]
  rw [← eS7]
  refine tn_putVr (ci := 1) (i := 0) (n := 5) (r := true) (v := (x1 : Int)) tyX1 tyX1_ok nmX1 dX1_init_10 rfl lay_1 (by decide) fl1_9 rfl (tyX1_ok 0 (by decide)) (vl_ref rfl).symm rfl rfl (cx8.r (by decide)) rfl rfl ?_
  obtain ⟨σ11, eS13, cx14, f5, f6, f7, f8, f9, f10, f11, f12, f13, f14, f15, f16⟩ : ∃ (σ11 : MS), σ11 = (sA 5 a ((x1 : Int)) σ5) ∧ CX a 1 K 208 1 T σ T4 σ11 ∧ (σ11.2.1 5 a = (x1 : Int)) ∧ (σ11.2.1 6 a = 0) ∧ (σ11.2.1 7 a = 0) ∧ (σ11.2.1 8 a = 0) ∧ (σ11.2.1 9 a = 0) ∧ (σ11.2.1 10 a = 0) ∧ (σ11.2.1 11 a = -1) ∧ (σ11.2.1 12 a = -1) ∧ (σ11.2.1 13 a = -1) ∧ (σ11.2.1 14 a = -1) ∧ (σ11.2.1 15 a = -1) ∧ (σ11.2.1 16 a = -1) := ⟨_, rfl, (cx8.put (by decide)), ra_eq, (rc_o (by decide) f6), (rc_o (by decide) f7), (rc_o (by decide) f8), (rc_o (by decide) f9), (rc_o (by decide) f10), (rc_o (by decide) f11), (rc_o (by decide) f12), (rc_o (by decide) f13), (rc_o (by decide) f14), (rc_o (by decide) f15), (rc_o (by decide) f16)⟩
  rw [← eS13]
  refine tn_aload_n dX1_init_13 rfl 0 rfl ?_
  refine tn_bipush dX1_init_14 (by decide) ?_
  refine tn_newI (N := 12) (k := 1) dX1_init_16 arC_int (by decide) rfl (by decide) (fun x15 hx16 => ?_)
  have ne17 := cx14.ne hx16
  obtain ⟨T18, σ19, eT20, eS21, cx22, f5, f6, f7, f8, f9, f10, f11, f12, f13, f14, f15, f16, o23, o24, nx7, nx41⟩ : ∃ (T18 : CT) (σ19 : MS), T18 = (tT T4 x15 1 12) ∧ σ19 = (rowS (1000 + x15) (fun _ => 0) (gh 12 σ11)) ∧ CX a 1 K 220 2 T σ T18 σ19 ∧ (σ19.2.1 5 a = (x1 : Int)) ∧ (σ19.2.1 6 a = 0) ∧ (σ19.2.1 7 a = 0) ∧ (σ19.2.1 8 a = 0) ∧ (σ19.2.1 9 a = 0) ∧ (σ19.2.1 10 a = 0) ∧ (σ19.2.1 11 a = -1) ∧ (σ19.2.1 12 a = -1) ∧ (σ19.2.1 13 a = -1) ∧ (σ19.2.1 14 a = -1) ∧ (σ19.2.1 15 a = -1) ∧ (σ19.2.1 16 a = -1) ∧ (T18 x1 = (1, 208)) ∧ (T18 x15 = (1, 12)) ∧ NX 7 a T T18 ∧ NX 41 a T T18 := ⟨_, _, rfl, rfl, (cx14.newI hx16 (by decide)), (by rw [rowS_ne (by omega)]; exact f5), (by rw [rowS_ne (by omega)]; exact f6), (by rw [rowS_ne (by omega)]; exact f7), (by rw [rowS_ne (by omega)]; exact f8), (by rw [rowS_ne (by omega)]; exact f9), (by rw [rowS_ne (by omega)]; exact f10), (by rw [rowS_ne (by omega)]; exact f11), (by rw [rowS_ne (by omega)]; exact f12), (by rw [rowS_ne (by omega)]; exact f13), (by rw [rowS_ne (by omega)]; exact f14), (by rw [rowS_ne (by omega)]; exact f15), (by rw [rowS_ne (by omega)]; exact f16), (tk_keep o9 (by decide) hx16), tT_eq, (nx7.mk9 (by decide)), (nx41.mk9 (by decide))⟩
  rw [← eT20]
  rw [← eS21]
  refine tn_putFr (ci := 1) (i := 6) (n := 11) (r := true) (v := (x15 : Int)) tyX1 tyX1_ok nmX1 dX1_init_18 rfl lay_1 (by decide) fl1_15 rfl rfl rfl (tyX1_ok 6 (by decide)) (vl_ref rfl).symm rfl rfl (cx22.r (by decide)) rfl rfl ?_
  obtain ⟨σ26, eS28, cx29, f5, f6, f7, f8, f9, f10, f11, f12, f13, f14, f15, f16⟩ : ∃ (σ26 : MS), σ26 = (sA 11 a ((x15 : Int)) σ19) ∧ CX a 1 K 220 2 T σ T18 σ26 ∧ (σ26.2.1 5 a = (x1 : Int)) ∧ (σ26.2.1 6 a = 0) ∧ (σ26.2.1 7 a = 0) ∧ (σ26.2.1 8 a = 0) ∧ (σ26.2.1 9 a = 0) ∧ (σ26.2.1 10 a = 0) ∧ (σ26.2.1 11 a = (x15 : Int)) ∧ (σ26.2.1 12 a = -1) ∧ (σ26.2.1 13 a = -1) ∧ (σ26.2.1 14 a = -1) ∧ (σ26.2.1 15 a = -1) ∧ (σ26.2.1 16 a = -1) := ⟨_, rfl, (cx22.put (by decide)), (rc_o (by decide) f5), (rc_o (by decide) f6), (rc_o (by decide) f7), (rc_o (by decide) f8), (rc_o (by decide) f9), (rc_o (by decide) f10), ra_eq, (rc_o (by decide) f12), (rc_o (by decide) f13), (rc_o (by decide) f14), (rc_o (by decide) f15), (rc_o (by decide) f16)⟩
  rw [← eS28]
  refine tn_aload_n dX1_init_21 rfl 0 rfl ?_
  refine tn_bipush dX1_init_22 (by decide) ?_
  refine tn_newI (N := 12) (k := 1) dX1_init_24 arC_int (by decide) rfl (by decide) (fun x30 hx31 => ?_)
  have ne32 := cx29.ne hx31
  obtain ⟨T33, σ34, eT35, eS36, cx37, f5, f6, f7, f8, f9, f10, f11, f12, f13, f14, f15, f16, o38, o39, o40, nx7, nx41⟩ : ∃ (T33 : CT) (σ34 : MS), T33 = (tT T18 x30 1 12) ∧ σ34 = (rowS (1000 + x30) (fun _ => 0) (gh 12 σ26)) ∧ CX a 1 K 232 3 T σ T33 σ34 ∧ (σ34.2.1 5 a = (x1 : Int)) ∧ (σ34.2.1 6 a = 0) ∧ (σ34.2.1 7 a = 0) ∧ (σ34.2.1 8 a = 0) ∧ (σ34.2.1 9 a = 0) ∧ (σ34.2.1 10 a = 0) ∧ (σ34.2.1 11 a = (x15 : Int)) ∧ (σ34.2.1 12 a = -1) ∧ (σ34.2.1 13 a = -1) ∧ (σ34.2.1 14 a = -1) ∧ (σ34.2.1 15 a = -1) ∧ (σ34.2.1 16 a = -1) ∧ (T33 x1 = (1, 208)) ∧ (T33 x15 = (1, 12)) ∧ (T33 x30 = (1, 12)) ∧ NX 7 a T T33 ∧ NX 41 a T T33 := ⟨_, _, rfl, rfl, (cx29.newI hx31 (by decide)), (by rw [rowS_ne (by omega)]; exact f5), (by rw [rowS_ne (by omega)]; exact f6), (by rw [rowS_ne (by omega)]; exact f7), (by rw [rowS_ne (by omega)]; exact f8), (by rw [rowS_ne (by omega)]; exact f9), (by rw [rowS_ne (by omega)]; exact f10), (by rw [rowS_ne (by omega)]; exact f11), (by rw [rowS_ne (by omega)]; exact f12), (by rw [rowS_ne (by omega)]; exact f13), (by rw [rowS_ne (by omega)]; exact f14), (by rw [rowS_ne (by omega)]; exact f15), (by rw [rowS_ne (by omega)]; exact f16), (tk_keep o23 (by decide) hx31), (tk_keep o24 (by decide) hx31), tT_eq, (nx7.mk9 (by decide)), (nx41.mk9 (by decide))⟩
  rw [← eT35]
  rw [← eS36]
  refine tn_putFr (ci := 1) (i := 7) (n := 12) (r := true) (v := (x30 : Int)) tyX1 tyX1_ok nmX1 dX1_init_26 rfl lay_1 (by decide) fl1_18 rfl rfl rfl (tyX1_ok 7 (by decide)) (vl_ref rfl).symm rfl rfl (cx37.r (by decide)) rfl rfl ?_
  obtain ⟨σ42, eS44, cx45, f5, f6, f7, f8, f9, f10, f11, f12, f13, f14, f15, f16⟩ : ∃ (σ42 : MS), σ42 = (sA 12 a ((x30 : Int)) σ34) ∧ CX a 1 K 232 3 T σ T33 σ42 ∧ (σ42.2.1 5 a = (x1 : Int)) ∧ (σ42.2.1 6 a = 0) ∧ (σ42.2.1 7 a = 0) ∧ (σ42.2.1 8 a = 0) ∧ (σ42.2.1 9 a = 0) ∧ (σ42.2.1 10 a = 0) ∧ (σ42.2.1 11 a = (x15 : Int)) ∧ (σ42.2.1 12 a = (x30 : Int)) ∧ (σ42.2.1 13 a = -1) ∧ (σ42.2.1 14 a = -1) ∧ (σ42.2.1 15 a = -1) ∧ (σ42.2.1 16 a = -1) := ⟨_, rfl, (cx37.put (by decide)), (rc_o (by decide) f5), (rc_o (by decide) f6), (rc_o (by decide) f7), (rc_o (by decide) f8), (rc_o (by decide) f9), (rc_o (by decide) f10), (rc_o (by decide) f11), ra_eq, (rc_o (by decide) f13), (rc_o (by decide) f14), (rc_o (by decide) f15), (rc_o (by decide) f16)⟩
  rw [← eS44]
  refine tn_aload_n dX1_init_29 rfl 0 rfl ?_
  refine tn_bipush dX1_init_30 (by decide) ?_
  refine tn_newI (N := 12) (k := 1) dX1_init_32 arC_int (by decide) rfl (by decide) (fun x46 hx47 => ?_)
  have ne48 := cx45.ne hx47
  obtain ⟨T49, σ50, eT51, eS52, cx53, f5, f6, f7, f8, f9, f10, f11, f12, f13, f14, f15, f16, o54, o55, o56, o57, nx7, nx41⟩ : ∃ (T49 : CT) (σ50 : MS), T49 = (tT T33 x46 1 12) ∧ σ50 = (rowS (1000 + x46) (fun _ => 0) (gh 12 σ42)) ∧ CX a 1 K 244 4 T σ T49 σ50 ∧ (σ50.2.1 5 a = (x1 : Int)) ∧ (σ50.2.1 6 a = 0) ∧ (σ50.2.1 7 a = 0) ∧ (σ50.2.1 8 a = 0) ∧ (σ50.2.1 9 a = 0) ∧ (σ50.2.1 10 a = 0) ∧ (σ50.2.1 11 a = (x15 : Int)) ∧ (σ50.2.1 12 a = (x30 : Int)) ∧ (σ50.2.1 13 a = -1) ∧ (σ50.2.1 14 a = -1) ∧ (σ50.2.1 15 a = -1) ∧ (σ50.2.1 16 a = -1) ∧ (T49 x1 = (1, 208)) ∧ (T49 x15 = (1, 12)) ∧ (T49 x30 = (1, 12)) ∧ (T49 x46 = (1, 12)) ∧ NX 7 a T T49 ∧ NX 41 a T T49 := ⟨_, _, rfl, rfl, (cx45.newI hx47 (by decide)), (by rw [rowS_ne (by omega)]; exact f5), (by rw [rowS_ne (by omega)]; exact f6), (by rw [rowS_ne (by omega)]; exact f7), (by rw [rowS_ne (by omega)]; exact f8), (by rw [rowS_ne (by omega)]; exact f9), (by rw [rowS_ne (by omega)]; exact f10), (by rw [rowS_ne (by omega)]; exact f11), (by rw [rowS_ne (by omega)]; exact f12), (by rw [rowS_ne (by omega)]; exact f13), (by rw [rowS_ne (by omega)]; exact f14), (by rw [rowS_ne (by omega)]; exact f15), (by rw [rowS_ne (by omega)]; exact f16), (tk_keep o38 (by decide) hx47), (tk_keep o39 (by decide) hx47), (tk_keep o40 (by decide) hx47), tT_eq, (nx7.mk9 (by decide)), (nx41.mk9 (by decide))⟩
  rw [← eT51]
  rw [← eS52]
  refine tn_putFr (ci := 1) (i := 8) (n := 13) (r := true) (v := (x46 : Int)) tyX1 tyX1_ok nmX1 dX1_init_34 rfl lay_1 (by decide) fl1_21 rfl rfl rfl (tyX1_ok 8 (by decide)) (vl_ref rfl).symm rfl rfl (cx53.r (by decide)) rfl rfl ?_
  obtain ⟨σ59, eS61, cx62, f5, f6, f7, f8, f9, f10, f11, f12, f13, f14, f15, f16⟩ : ∃ (σ59 : MS), σ59 = (sA 13 a ((x46 : Int)) σ50) ∧ CX a 1 K 244 4 T σ T49 σ59 ∧ (σ59.2.1 5 a = (x1 : Int)) ∧ (σ59.2.1 6 a = 0) ∧ (σ59.2.1 7 a = 0) ∧ (σ59.2.1 8 a = 0) ∧ (σ59.2.1 9 a = 0) ∧ (σ59.2.1 10 a = 0) ∧ (σ59.2.1 11 a = (x15 : Int)) ∧ (σ59.2.1 12 a = (x30 : Int)) ∧ (σ59.2.1 13 a = (x46 : Int)) ∧ (σ59.2.1 14 a = -1) ∧ (σ59.2.1 15 a = -1) ∧ (σ59.2.1 16 a = -1) := ⟨_, rfl, (cx53.put (by decide)), (rc_o (by decide) f5), (rc_o (by decide) f6), (rc_o (by decide) f7), (rc_o (by decide) f8), (rc_o (by decide) f9), (rc_o (by decide) f10), (rc_o (by decide) f11), (rc_o (by decide) f12), ra_eq, (rc_o (by decide) f14), (rc_o (by decide) f15), (rc_o (by decide) f16)⟩
  rw [← eS61]
  refine tn_aload_n dX1_init_37 rfl 0 rfl ?_
  refine tn_bipush dX1_init_38 (by decide) ?_
  refine tn_newI (N := 12) (k := 11) dX1_init_40 arC_int (by decide) rfl (by decide) (fun x63 hx64 => ?_)
  have ne65 := cx62.ne hx64
  obtain ⟨T66, σ67, eT68, eS69, cx70, f5, f6, f7, f8, f9, f10, f11, f12, f13, f14, f15, f16, o71, o72, o73, o74, o75, nx7, nx41⟩ : ∃ (T66 : CT) (σ67 : MS), T66 = (tT T49 x63 11 12) ∧ σ67 = (rowS (1000 + x63) (fun _ => 0) (gh 12 σ59)) ∧ CX a 1 K 256 5 T σ T66 σ67 ∧ (σ67.2.1 5 a = (x1 : Int)) ∧ (σ67.2.1 6 a = 0) ∧ (σ67.2.1 7 a = 0) ∧ (σ67.2.1 8 a = 0) ∧ (σ67.2.1 9 a = 0) ∧ (σ67.2.1 10 a = 0) ∧ (σ67.2.1 11 a = (x15 : Int)) ∧ (σ67.2.1 12 a = (x30 : Int)) ∧ (σ67.2.1 13 a = (x46 : Int)) ∧ (σ67.2.1 14 a = -1) ∧ (σ67.2.1 15 a = -1) ∧ (σ67.2.1 16 a = -1) ∧ (T66 x1 = (1, 208)) ∧ (T66 x15 = (1, 12)) ∧ (T66 x30 = (1, 12)) ∧ (T66 x46 = (1, 12)) ∧ (T66 x63 = (11, 12)) ∧ NX 7 a T T66 ∧ NX 41 a T T66 := ⟨_, _, rfl, rfl, (cx62.newI hx64 (by decide)), (by rw [rowS_ne (by omega)]; exact f5), (by rw [rowS_ne (by omega)]; exact f6), (by rw [rowS_ne (by omega)]; exact f7), (by rw [rowS_ne (by omega)]; exact f8), (by rw [rowS_ne (by omega)]; exact f9), (by rw [rowS_ne (by omega)]; exact f10), (by rw [rowS_ne (by omega)]; exact f11), (by rw [rowS_ne (by omega)]; exact f12), (by rw [rowS_ne (by omega)]; exact f13), (by rw [rowS_ne (by omega)]; exact f14), (by rw [rowS_ne (by omega)]; exact f15), (by rw [rowS_ne (by omega)]; exact f16), (tk_keep o54 (by decide) hx64), (tk_keep o55 (by decide) hx64), (tk_keep o56 (by decide) hx64), (tk_keep o57 (by decide) hx64), tT_eq, (nx7.mk9 (by decide)), (nx41.mk9 (by decide))⟩
  rw [← eT68]
  rw [← eS69]
  refine tn_putFr (ci := 1) (i := 9) (n := 14) (r := true) (v := (x63 : Int)) tyX1 tyX1_ok nmX1 dX1_init_42 rfl lay_1 (by decide) fl1_24 rfl rfl rfl (tyX1_ok 9 (by decide)) (vl_ref rfl).symm rfl rfl (cx70.r (by decide)) rfl rfl ?_
  obtain ⟨σ77, eS79, cx80, f5, f6, f7, f8, f9, f10, f11, f12, f13, f14, f15, f16⟩ : ∃ (σ77 : MS), σ77 = (sA 14 a ((x63 : Int)) σ67) ∧ CX a 1 K 256 5 T σ T66 σ77 ∧ (σ77.2.1 5 a = (x1 : Int)) ∧ (σ77.2.1 6 a = 0) ∧ (σ77.2.1 7 a = 0) ∧ (σ77.2.1 8 a = 0) ∧ (σ77.2.1 9 a = 0) ∧ (σ77.2.1 10 a = 0) ∧ (σ77.2.1 11 a = (x15 : Int)) ∧ (σ77.2.1 12 a = (x30 : Int)) ∧ (σ77.2.1 13 a = (x46 : Int)) ∧ (σ77.2.1 14 a = (x63 : Int)) ∧ (σ77.2.1 15 a = -1) ∧ (σ77.2.1 16 a = -1) := ⟨_, rfl, (cx70.put (by decide)), (rc_o (by decide) f5), (rc_o (by decide) f6), (rc_o (by decide) f7), (rc_o (by decide) f8), (rc_o (by decide) f9), (rc_o (by decide) f10), (rc_o (by decide) f11), (rc_o (by decide) f12), (rc_o (by decide) f13), ra_eq, (rc_o (by decide) f15), (rc_o (by decide) f16)⟩
  rw [← eS79]
  refine tn_aload_n dX1_init_45 rfl 0 rfl ?_
  refine tn_sipush dX1_init_46 (by decide) ?_
  refine tn_newI (N := 144) (k := 1) dX1_init_49 arC_int (by decide) rfl (by decide) (fun x81 hx82 => ?_)
  have ne83 := cx80.ne hx82
  obtain ⟨T84, σ85, eT86, eS87, cx88, f5, f6, f7, f8, f9, f10, f11, f12, f13, f14, f15, f16, o89, o90, o91, o92, o93, o94, nx7, nx41⟩ : ∃ (T84 : CT) (σ85 : MS), T84 = (tT T66 x81 1 144) ∧ σ85 = (rowS (1000 + x81) (fun _ => 0) (gh 144 σ77)) ∧ CX a 1 K 400 6 T σ T84 σ85 ∧ (σ85.2.1 5 a = (x1 : Int)) ∧ (σ85.2.1 6 a = 0) ∧ (σ85.2.1 7 a = 0) ∧ (σ85.2.1 8 a = 0) ∧ (σ85.2.1 9 a = 0) ∧ (σ85.2.1 10 a = 0) ∧ (σ85.2.1 11 a = (x15 : Int)) ∧ (σ85.2.1 12 a = (x30 : Int)) ∧ (σ85.2.1 13 a = (x46 : Int)) ∧ (σ85.2.1 14 a = (x63 : Int)) ∧ (σ85.2.1 15 a = -1) ∧ (σ85.2.1 16 a = -1) ∧ (T84 x1 = (1, 208)) ∧ (T84 x15 = (1, 12)) ∧ (T84 x30 = (1, 12)) ∧ (T84 x46 = (1, 12)) ∧ (T84 x63 = (11, 12)) ∧ (T84 x81 = (1, 144)) ∧ NX 7 a T T84 ∧ NX 41 a T T84 := ⟨_, _, rfl, rfl, (cx80.newI hx82 (by decide)), (by rw [rowS_ne (by omega)]; exact f5), (by rw [rowS_ne (by omega)]; exact f6), (by rw [rowS_ne (by omega)]; exact f7), (by rw [rowS_ne (by omega)]; exact f8), (by rw [rowS_ne (by omega)]; exact f9), (by rw [rowS_ne (by omega)]; exact f10), (by rw [rowS_ne (by omega)]; exact f11), (by rw [rowS_ne (by omega)]; exact f12), (by rw [rowS_ne (by omega)]; exact f13), (by rw [rowS_ne (by omega)]; exact f14), (by rw [rowS_ne (by omega)]; exact f15), (by rw [rowS_ne (by omega)]; exact f16), (tk_keep o71 (by decide) hx82), (tk_keep o72 (by decide) hx82), (tk_keep o73 (by decide) hx82), (tk_keep o74 (by decide) hx82), (tk_keep o75 (by decide) hx82), tT_eq, (nx7.mk9 (by decide)), (nx41.mk9 (by decide))⟩
  rw [← eT86]
  rw [← eS87]
  refine tn_putFr (ci := 1) (i := 10) (n := 15) (r := true) (v := (x81 : Int)) tyX1 tyX1_ok nmX1 dX1_init_51 rfl lay_1 (by decide) fl1_27 rfl rfl rfl (tyX1_ok 10 (by decide)) (vl_ref rfl).symm rfl rfl (cx88.r (by decide)) rfl rfl ?_
  obtain ⟨σ96, eS98, cx99, f5, f6, f7, f8, f9, f10, f11, f12, f13, f14, f15, f16⟩ : ∃ (σ96 : MS), σ96 = (sA 15 a ((x81 : Int)) σ85) ∧ CX a 1 K 400 6 T σ T84 σ96 ∧ (σ96.2.1 5 a = (x1 : Int)) ∧ (σ96.2.1 6 a = 0) ∧ (σ96.2.1 7 a = 0) ∧ (σ96.2.1 8 a = 0) ∧ (σ96.2.1 9 a = 0) ∧ (σ96.2.1 10 a = 0) ∧ (σ96.2.1 11 a = (x15 : Int)) ∧ (σ96.2.1 12 a = (x30 : Int)) ∧ (σ96.2.1 13 a = (x46 : Int)) ∧ (σ96.2.1 14 a = (x63 : Int)) ∧ (σ96.2.1 15 a = (x81 : Int)) ∧ (σ96.2.1 16 a = -1) := ⟨_, rfl, (cx88.put (by decide)), (rc_o (by decide) f5), (rc_o (by decide) f6), (rc_o (by decide) f7), (rc_o (by decide) f8), (rc_o (by decide) f9), (rc_o (by decide) f10), (rc_o (by decide) f11), (rc_o (by decide) f12), (rc_o (by decide) f13), (rc_o (by decide) f14), ra_eq, (rc_o (by decide) f16)⟩
  rw [← eS98]
  refine tn_aload_n dX1_init_54 rfl 0 rfl ?_
  refine tn_bipush dX1_init_55 (by decide) ?_
  refine tn_newI (N := 13) (k := 1) dX1_init_57 arC_int (by decide) rfl (by decide) (fun x100 hx101 => ?_)
  have ne102 := cx99.ne hx101
  obtain ⟨T103, σ104, eT105, eS106, cx107, f5, f6, f7, f8, f9, f10, f11, f12, f13, f14, f15, f16, o108, o109, o110, o111, o112, o113, o114, nx7, nx41⟩ : ∃ (T103 : CT) (σ104 : MS), T103 = (tT T84 x100 1 13) ∧ σ104 = (rowS (1000 + x100) (fun _ => 0) (gh 13 σ96)) ∧ CX a 1 K 413 7 T σ T103 σ104 ∧ (σ104.2.1 5 a = (x1 : Int)) ∧ (σ104.2.1 6 a = 0) ∧ (σ104.2.1 7 a = 0) ∧ (σ104.2.1 8 a = 0) ∧ (σ104.2.1 9 a = 0) ∧ (σ104.2.1 10 a = 0) ∧ (σ104.2.1 11 a = (x15 : Int)) ∧ (σ104.2.1 12 a = (x30 : Int)) ∧ (σ104.2.1 13 a = (x46 : Int)) ∧ (σ104.2.1 14 a = (x63 : Int)) ∧ (σ104.2.1 15 a = (x81 : Int)) ∧ (σ104.2.1 16 a = -1) ∧ (T103 x1 = (1, 208)) ∧ (T103 x15 = (1, 12)) ∧ (T103 x30 = (1, 12)) ∧ (T103 x46 = (1, 12)) ∧ (T103 x63 = (11, 12)) ∧ (T103 x81 = (1, 144)) ∧ (T103 x100 = (1, 13)) ∧ NX 7 a T T103 ∧ NX 41 a T T103 := ⟨_, _, rfl, rfl, (cx99.newI hx101 (by decide)), (by rw [rowS_ne (by omega)]; exact f5), (by rw [rowS_ne (by omega)]; exact f6), (by rw [rowS_ne (by omega)]; exact f7), (by rw [rowS_ne (by omega)]; exact f8), (by rw [rowS_ne (by omega)]; exact f9), (by rw [rowS_ne (by omega)]; exact f10), (by rw [rowS_ne (by omega)]; exact f11), (by rw [rowS_ne (by omega)]; exact f12), (by rw [rowS_ne (by omega)]; exact f13), (by rw [rowS_ne (by omega)]; exact f14), (by rw [rowS_ne (by omega)]; exact f15), (by rw [rowS_ne (by omega)]; exact f16), (tk_keep o89 (by decide) hx101), (tk_keep o90 (by decide) hx101), (tk_keep o91 (by decide) hx101), (tk_keep o92 (by decide) hx101), (tk_keep o93 (by decide) hx101), (tk_keep o94 (by decide) hx101), tT_eq, (nx7.mk9 (by decide)), (nx41.mk9 (by decide))⟩
  rw [← eT105]
  rw [← eS106]
  refine tn_putFr (ci := 1) (i := 11) (n := 16) (r := true) (v := (x100 : Int)) tyX1 tyX1_ok nmX1 dX1_init_59 rfl lay_1 (by decide) fl1_30 rfl rfl rfl (tyX1_ok 11 (by decide)) (vl_ref rfl).symm rfl rfl (cx107.r (by decide)) rfl rfl ?_
  obtain ⟨σ116, eS118, cx119, f5, f6, f7, f8, f9, f10, f11, f12, f13, f14, f15, f16⟩ : ∃ (σ116 : MS), σ116 = (sA 16 a ((x100 : Int)) σ104) ∧ CX a 1 K 413 7 T σ T103 σ116 ∧ (σ116.2.1 5 a = (x1 : Int)) ∧ (σ116.2.1 6 a = 0) ∧ (σ116.2.1 7 a = 0) ∧ (σ116.2.1 8 a = 0) ∧ (σ116.2.1 9 a = 0) ∧ (σ116.2.1 10 a = 0) ∧ (σ116.2.1 11 a = (x15 : Int)) ∧ (σ116.2.1 12 a = (x30 : Int)) ∧ (σ116.2.1 13 a = (x46 : Int)) ∧ (σ116.2.1 14 a = (x63 : Int)) ∧ (σ116.2.1 15 a = (x81 : Int)) ∧ (σ116.2.1 16 a = (x100 : Int)) := ⟨_, rfl, (cx107.put (by decide)), (rc_o (by decide) f5), (rc_o (by decide) f6), (rc_o (by decide) f7), (rc_o (by decide) f8), (rc_o (by decide) f9), (rc_o (by decide) f10), (rc_o (by decide) f11), (rc_o (by decide) f12), (rc_o (by decide) f13), (rc_o (by decide) f14), (rc_o (by decide) f15), ra_eq⟩
  rw [← eS118]
  refine tn_tag (ci := 1) (k := 50) (by decide) cx119.1 (by decide) ?_
  have hf9 : ∀ m, m < 111 → cls m = 1 → FO m 50 T103 (σ116.2.1 m a) := fun m hm9 hc9 => by
    have q9 := clsR_1 m hm9 hc9
    have q8 : m = 5 ∨ m = 6 ∨ m = 7 ∨ m = 8 ∨ m = 9 ∨ m = 10 ∨ m = 11 ∨ m = 12 ∨ m = 13 ∨ m = 14 ∨ m = 15 ∨ m = 16 := by omega
    rcases q8 with q8 | q8 | q8 | q8 | q8 | q8 | q8 | q8 | q8 | q8 | q8 | q8
    · subst q8; rw [f5]; exact fo_5 ⟨_, rfl, ⟨by rw [o108]; decide, by rw [o108]; decide⟩, fun _ => tg1 o108, fun h => absurd rfl h⟩
    · subst q8; rw [f6]; exact fo_6 (by decide)
    · subst q8; rw [f7]; exact fo_7 (by decide)
    · subst q8; rw [f8]; exact fo_8 (by decide)
    · subst q8; rw [f9]; exact fo_9 (by decide)
    · subst q8; rw [f10]; exact fo_10 (by decide)
    · subst q8; rw [f11]; exact fo_11 (⟨_, rfl, AR.of o109 (by decide) (by decide)⟩)
    · subst q8; rw [f12]; exact fo_12 (⟨_, rfl, AR.of o110 (by decide) (by decide)⟩)
    · subst q8; rw [f13]; exact fo_13 (⟨_, rfl, AR.of o111 (by decide) (by decide)⟩)
    · subst q8; rw [f14]; exact fo_14 (⟨_, rfl, AR.of o112 (by decide) (by decide)⟩)
    · subst q8; rw [f15]; exact fo_15 (⟨_, rfl, AR.of o113 (by decide) (by decide)⟩)
    · subst q8; rw [f16]; exact fo_16 (⟨_, rfl, AR.of o114 (by decide) (by decide)⟩)
  exact tn_vret rfl dX1_init_62 ⟨rfl, tT_eq, cx119.2.1.tag cx119.1 (by decide) hf9 (fun _ y _ => Or.inl (by rw [f6]; omega)), cx119.2.2.1.tagC (by decide), cx119.2.2.2.1.tag, cx119.2.2.2.2.1, cx119.2.2.2.2.2, nx7.tag, nx41.tag⟩
