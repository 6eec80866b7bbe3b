section
set_option maxHeartbeats 1000000 in
set_option maxRecDepth 20000 in
theorem kj_X7_init_57 (d : Nat) {T : CT} {σ : MS} {a : Nat} {K : List Nat} {cs : Nat} (hraw : T a = (80 + 7, 0)) (hb : WTn T σ) (hcd : CD K T) (hdf : ∀ j, j < 200 → σ.2.1 j (a : Int) = dfF j) {S0 : Nat → Prop} (hij : INJT S0 T σ) (h_cs : T cs = (4, 6)) : Tn (d + 1) m_X7_init 0 T σ [(0, .ref a), (1, .ref cs)] [] (fun ro T2 σ2 => ro = none ∧ T2 a = (57, 0) ∧ WTn T2 σ2 ∧ CD K T2 ∧ KPx a T σ T2 σ2 ∧ σ2.1 0 = σ.1 0 + (2063 : Nat) ∧ σ2.1 1 = σ.1 1 + (6 : Nat) ∧ INJT S0 T2 σ2 ∧ FRN T T2 σ2 ∧ NX 7 a T T2 ∧ NX 41 a T T2 ∧ σ2.2.1 57 (a : Int) = 0 ∧ σ2.2.1 55 (a : Int) = (cs : Int) ∧ σ2.2.1 56 (a : Int) = 0) := by
  have cx0 : CX a 7 K 0 0 T σ T σ := CX.begin hraw hb hcd
  have cj : CXJ S0 a 7 T T σ := CXJ.begin hraw (fun f9 h9 c9 => (hdf f9 (by have := afl_lt h9; omega)).trans ((by decide : ∀ f ∈ AFL, dfF f = -1) f9 h9)) hij
  have nx7 : NX 7 a T T := NX.begin (by decide)
  have nx41 : NX 41 a T T := NX.begin (by decide)
  have f55 : σ.2.1 55 a = -1 := (hdf 55 (by decide)).trans (by decide)
  have f56 : σ.2.1 56 a = 0 := (hdf 56 (by decide)).trans (by decide)
  have f57 : σ.2.1 57 a = 0 := (hdf 57 (by decide)).trans (by decide)
  have f58 : σ.2.1 58 a = 0 := (hdf 58 (by decide)).trans (by decide)
  have f59 : σ.2.1 59 a = -1 := (hdf 59 (by decide)).trans (by decide)
  have f60 : σ.2.1 60 a = -1 := (hdf 60 (by decide)).trans (by decide)
  have f61 : σ.2.1 61 a = -1 := (hdf 61 (by decide)).trans (by decide)
  have f62 : σ.2.1 62 a = -1 := (hdf 62 (by decide)).trans (by decide)
  have f63 : σ.2.1 63 a = -1 := (hdf 63 (by decide)).trans (by decide)
  have f64 : σ.2.1 64 a = -1 := (hdf 64 (by decide)).trans (by decide)
  have f65 : σ.2.1 65 a = 0 := (hdf 65 (by decide)).trans (by decide)
  have f66 : σ.2.1 66 a = 0 := (hdf 66 (by decide)).trans (by decide)
  have f67 : σ.2.1 67 a = 0 := (hdf 67 (by decide)).trans (by decide)
  have f68 : σ.2.1 68 a = 0 := (hdf 68 (by decide)).trans (by decide)
  have f69 : σ.2.1 69 a = -1 := (hdf 69 (by decide)).trans (by decide)
  have f70 : σ.2.1 70 a = 0 := (hdf 70 (by decide)).trans (by decide)
  have f71 : σ.2.1 71 a = 0 := (hdf 71 (by decide)).trans (by decide)
  refine tn_aload_n dX7_init_0 rfl 0 rfl ?_
  refine tn_objInit dX7_init_1 mlo7_3 oiI oiC (by omega) (Nat.le_of_ble_eq_true rfl) ?_
  refine tn_aload_n dX7_init_4 rfl 0 rfl ?_
  refine tn_bipush dX7_init_5 (by decide) ?_
  refine tn_newI (N := 9) (k := 15) dX7_init_7 arC_int (by decide) rfl (by decide) (fun x1 hx2 => ?_)
  have ne3 := cx0.ne hx2
  have ne3z := (cx0.fresh hx2).resolve_right (fun e => ne3 e.symm)
  have ne3j := CXJ.new (T2 := (tT T x1 15 9)) (σ2 := (rowS (1000 + x1) (fun _ => 0) (gh 9 σ))) cj cx0.1 cx0.2.1 hx2 (by rw [tT_eq]; decide) (fun b9 e9 => tT_ne e9) (fun n9 c9 hn9 hc9 => by rw [rowS_ne (by omega)]; rfl)
  obtain ⟨T4, σ5, eT6, eS7, cx8, f55, f56, f57, f58, f59, f60, f61, f62, f63, f64, f65, f66, f67, f68, f69, f70, f71, o9, o10, nx7, nx41, cj, un⟩ : ∃ (T4 : CT) (σ5 : MS), T4 = (tT T x1 15 9) ∧ σ5 = (rowS (1000 + x1) (fun _ => 0) (gh 9 σ)) ∧ CX a 7 K 9 1 T σ T4 σ5 ∧ (σ5.2.1 55 a = -1) ∧ (σ5.2.1 56 a = 0) ∧ (σ5.2.1 57 a = 0) ∧ (σ5.2.1 58 a = 0) ∧ (σ5.2.1 59 a = -1) ∧ (σ5.2.1 60 a = -1) ∧ (σ5.2.1 61 a = -1) ∧ (σ5.2.1 62 a = -1) ∧ (σ5.2.1 63 a = -1) ∧ (σ5.2.1 64 a = -1) ∧ (σ5.2.1 65 a = 0) ∧ (σ5.2.1 66 a = 0) ∧ (σ5.2.1 67 a = 0) ∧ (σ5.2.1 68 a = 0) ∧ (σ5.2.1 69 a = -1) ∧ (σ5.2.1 70 a = 0) ∧ (σ5.2.1 71 a = 0) ∧ (T4 cs = (4, 6)) ∧ (T4 x1 = (15, 9)) ∧ NX 7 a T T4 ∧ NX 41 a T T4 ∧ CXJ S0 a 7 T T4 σ5 ∧ UNF a 7 x1 T4 σ5 := ⟨_, _, rfl, rfl, (cx0.newI hx2 (by decide)), (by rw [rowS_ne (by omega)]; exact f55), (by rw [rowS_ne (by omega)]; exact f56), (by rw [rowS_ne (by omega)]; exact f57), (by rw [rowS_ne (by omega)]; exact f58), (by rw [rowS_ne (by omega)]; exact f59), (by rw [rowS_ne (by omega)]; exact f60), (by rw [rowS_ne (by omega)]; exact f61), (by rw [rowS_ne (by omega)]; exact f62), (by rw [rowS_ne (by omega)]; exact f63), (by rw [rowS_ne (by omega)]; exact f64), (by rw [rowS_ne (by omega)]; exact f65), (by rw [rowS_ne (by omega)]; exact f66), (by rw [rowS_ne (by omega)]; exact f67), (by rw [rowS_ne (by omega)]; exact f68), (by rw [rowS_ne (by omega)]; exact f69), (by rw [rowS_ne (by omega)]; exact f70), (by rw [rowS_ne (by omega)]; exact f71), (tk_keep h_cs (by decide) hx2), tT_eq, (nx7.mk9 (by decide)), (nx41.mk9 (by decide)), ne3j.1, ne3j.2⟩
  rw [← eT6]
  rw [← eS7]
  refine tn_putFr (ci := 7) (i := 4) (n := 59) (r := true) (v := (x1 : Int)) tyX7 tyX7_ok nmX7 dX7_init_9 rfl lay_7 (by decide) fl7_9 rfl rfl rfl (tyX7_ok 4 (by decide)) (vl_ref rfl).symm rfl rfl (cx8.r (by decide)) rfl rfl ?_
  obtain ⟨σ12, eS14, cx15, f55, f56, f57, f58, f59, f60, f61, f62, f63, f64, f65, f66, f67, f68, f69, f70, f71, cj⟩ : ∃ (σ12 : MS), σ12 = (sA 59 a ((x1 : Int)) σ5) ∧ CX a 7 K 9 1 T σ T4 σ12 ∧ (σ12.2.1 55 a = -1) ∧ (σ12.2.1 56 a = 0) ∧ (σ12.2.1 57 a = 0) ∧ (σ12.2.1 58 a = 0) ∧ (σ12.2.1 59 a = (x1 : Int)) ∧ (σ12.2.1 60 a = -1) ∧ (σ12.2.1 61 a = -1) ∧ (σ12.2.1 62 a = -1) ∧ (σ12.2.1 63 a = -1) ∧ (σ12.2.1 64 a = -1) ∧ (σ12.2.1 65 a = 0) ∧ (σ12.2.1 66 a = 0) ∧ (σ12.2.1 67 a = 0) ∧ (σ12.2.1 68 a = 0) ∧ (σ12.2.1 69 a = -1) ∧ (σ12.2.1 70 a = 0) ∧ (σ12.2.1 71 a = 0) ∧ CXJ S0 a 7 T T4 σ12 := ⟨_, rfl, (cx8.put (by decide)), (rc_o (by decide) f55), (rc_o (by decide) f56), (rc_o (by decide) f57), (rc_o (by decide) f58), ra_eq, (rc_o (by decide) f60), (rc_o (by decide) f61), (rc_o (by decide) f62), (rc_o (by decide) f63), (rc_o (by decide) f64), (rc_o (by decide) f65), (rc_o (by decide) f66), (rc_o (by decide) f67), (rc_o (by decide) f68), (rc_o (by decide) f69), (rc_o (by decide) f70), (rc_o (by decide) f71), (CXJ.putA cj cx8.1 (by decide) rfl un (by rw [o10]; decide) ne3z)⟩
  rw [← eS14]
  refine tn_aload_n dX7_init_12 rfl 0 rfl ?_
  refine tn_bipush dX7_init_13 (by decide) ?_
  refine tn_newI (N := 9) (k := 1) dX7_init_15 arC_int (by decide) rfl (by decide) (fun x16 hx17 => ?_)
  have ne18 := cx15.ne hx17
  have ne18z := (cx15.fresh hx17).resolve_right (fun e => ne18 e.symm)
  have ne18j := CXJ.new (T2 := (tT T4 x16 1 9)) (σ2 := (rowS (1000 + x16) (fun _ => 0) (gh 9 σ12))) cj cx15.1 cx15.2.1 hx17 (by rw [tT_eq]; decide) (fun b9 e9 => tT_ne e9) (fun n9 c9 hn9 hc9 => by rw [rowS_ne (by omega)]; rfl)
  obtain ⟨T19, σ20, eT21, eS22, cx23, f55, f56, f57, f58, f59, f60, f61, f62, f63, f64, f65, f66, f67, f68, f69, f70, f71, o24, o25, o26, nx7, nx41, cj, un⟩ : ∃ (T19 : CT) (σ20 : MS), T19 = (tT T4 x16 1 9) ∧ σ20 = (rowS (1000 + x16) (fun _ => 0) (gh 9 σ12)) ∧ CX a 7 K 18 2 T σ T19 σ20 ∧ (σ20.2.1 55 a = -1) ∧ (σ20.2.1 56 a = 0) ∧ (σ20.2.1 57 a = 0) ∧ (σ20.2.1 58 a = 0) ∧ (σ20.2.1 59 a = (x1 : Int)) ∧ (σ20.2.1 60 a = -1) ∧ (σ20.2.1 61 a = -1) ∧ (σ20.2.1 62 a = -1) ∧ (σ20.2.1 63 a = -1) ∧ (σ20.2.1 64 a = -1) ∧ (σ20.2.1 65 a = 0) ∧ (σ20.2.1 66 a = 0) ∧ (σ20.2.1 67 a = 0) ∧ (σ20.2.1 68 a = 0) ∧ (σ20.2.1 69 a = -1) ∧ (σ20.2.1 70 a = 0) ∧ (σ20.2.1 71 a = 0) ∧ (T19 cs = (4, 6)) ∧ (T19 x1 = (15, 9)) ∧ (T19 x16 = (1, 9)) ∧ NX 7 a T T19 ∧ NX 41 a T T19 ∧ CXJ S0 a 7 T T19 σ20 ∧ UNF a 7 x16 T19 σ20 := ⟨_, _, rfl, rfl, (cx15.newI hx17 (by decide)), (by rw [rowS_ne (by omega)]; exact f55), (by rw [rowS_ne (by omega)]; exact f56), (by rw [rowS_ne (by omega)]; exact f57), (by rw [rowS_ne (by omega)]; exact f58), (by rw [rowS_ne (by omega)]; exact f59), (by rw [rowS_ne (by omega)]; exact f60), (by rw [rowS_ne (by omega)]; exact f61), (by rw [rowS_ne (by omega)]; exact f62), (by rw [rowS_ne (by omega)]; exact f63), (by rw [rowS_ne (by omega)]; exact f64), (by rw [rowS_ne (by omega)]; exact f65), (by rw [rowS_ne (by omega)]; exact f66), (by rw [rowS_ne (by omega)]; exact f67), (by rw [rowS_ne (by omega)]; exact f68), (by rw [rowS_ne (by omega)]; exact f69), (by rw [rowS_ne (by omega)]; exact f70), (by rw [rowS_ne (by omega)]; exact f71), (tk_keep o9 (by decide) hx17), (tk_keep o10 (by decide) hx17), tT_eq, (nx7.mk9 (by decide)), (nx41.mk9 (by decide)), ne18j.1, ne18j.2⟩
  rw [← eT21]
  rw [← eS22]
  refine tn_putFr (ci := 7) (i := 5) (n := 60) (r := true) (v := (x16 : Int)) tyX7 tyX7_ok nmX7 dX7_init_17 rfl lay_7 (by decide) fl7_15 rfl rfl rfl (tyX7_ok 5 (by decide)) (vl_ref rfl).symm rfl rfl (cx23.r (by decide)) rfl rfl ?_
  obtain ⟨σ28, eS30, cx31, f55, f56, f57, f58, f59, f60, f61, f62, f63, f64, f65, f66, f67, f68, f69, f70, f71, cj⟩ : ∃ (σ28 : MS), σ28 = (sA 60 a ((x16 : Int)) σ20) ∧ CX a 7 K 18 2 T σ T19 σ28 ∧ (σ28.2.1 55 a = -1) ∧ (σ28.2.1 56 a = 0) ∧ (σ28.2.1 57 a = 0) ∧ (σ28.2.1 58 a = 0) ∧ (σ28.2.1 59 a = (x1 : Int)) ∧ (σ28.2.1 60 a = (x16 : Int)) ∧ (σ28.2.1 61 a = -1) ∧ (σ28.2.1 62 a = -1) ∧ (σ28.2.1 63 a = -1) ∧ (σ28.2.1 64 a = -1) ∧ (σ28.2.1 65 a = 0) ∧ (σ28.2.1 66 a = 0) ∧ (σ28.2.1 67 a = 0) ∧ (σ28.2.1 68 a = 0) ∧ (σ28.2.1 69 a = -1) ∧ (σ28.2.1 70 a = 0) ∧ (σ28.2.1 71 a = 0) ∧ CXJ S0 a 7 T T19 σ28 := ⟨_, rfl, (cx23.put (by decide)), (rc_o (by decide) f55), (rc_o (by decide) f56), (rc_o (by decide) f57), (rc_o (by decide) f58), (rc_o (by decide) f59), ra_eq, (rc_o (by decide) f61), (rc_o (by decide) f62), (rc_o (by decide) f63), (rc_o (by decide) f64), (rc_o (by decide) f65), (rc_o (by decide) f66), (rc_o (by decide) f67), (rc_o (by decide) f68), (rc_o (by decide) f69), (rc_o (by decide) f70), (rc_o (by decide) f71), (CXJ.putA cj cx23.1 (by decide) rfl un (by rw [o26]; decide) ne18z)⟩
  rw [← eS30]
  refine tn_aload_n dX7_init_20 rfl 0 rfl ?_
  refine tn_bipush dX7_init_21 (by decide) ?_
  refine tn_newI (N := 9) (k := 14) dX7_init_23 arC_int (by decide) rfl (by decide) (fun x32 hx33 => ?_)
  have ne34 := cx31.ne hx33
  have ne34z := (cx31.fresh hx33).resolve_right (fun e => ne34 e.symm)
  have ne34j := CXJ.new (T2 := (tT T19 x32 14 9)) (σ2 := (rowS (1000 + x32) (fun _ => 0) (gh 9 σ28))) cj cx31.1 cx31.2.1 hx33 (by rw [tT_eq]; decide) (fun b9 e9 => tT_ne e9) (fun n9 c9 hn9 hc9 => by rw [rowS_ne (by omega)]; rfl)
  obtain ⟨T35, σ36, eT37, eS38, cx39, f55, f56, f57, f58, f59, f60, f61, f62, f63, f64, f65, f66, f67, f68, f69, f70, f71, o40, o41, o42, o43, nx7, nx41, cj, un⟩ : ∃ (T35 : CT) (σ36 : MS), T35 = (tT T19 x32 14 9) ∧ σ36 = (rowS (1000 + x32) (fun _ => 0) (gh 9 σ28)) ∧ CX a 7 K 27 3 T σ T35 σ36 ∧ (σ36.2.1 55 a = -1) ∧ (σ36.2.1 56 a = 0) ∧ (σ36.2.1 57 a = 0) ∧ (σ36.2.1 58 a = 0) ∧ (σ36.2.1 59 a = (x1 : Int)) ∧ (σ36.2.1 60 a = (x16 : Int)) ∧ (σ36.2.1 61 a = -1) ∧ (σ36.2.1 62 a = -1) ∧ (σ36.2.1 63 a = -1) ∧ (σ36.2.1 64 a = -1) ∧ (σ36.2.1 65 a = 0) ∧ (σ36.2.1 66 a = 0) ∧ (σ36.2.1 67 a = 0) ∧ (σ36.2.1 68 a = 0) ∧ (σ36.2.1 69 a = -1) ∧ (σ36.2.1 70 a = 0) ∧ (σ36.2.1 71 a = 0) ∧ (T35 cs = (4, 6)) ∧ (T35 x1 = (15, 9)) ∧ (T35 x16 = (1, 9)) ∧ (T35 x32 = (14, 9)) ∧ NX 7 a T T35 ∧ NX 41 a T T35 ∧ CXJ S0 a 7 T T35 σ36 ∧ UNF a 7 x32 T35 σ36 := ⟨_, _, rfl, rfl, (cx31.newI hx33 (by decide)), (by rw [rowS_ne (by omega)]; exact f55), (by rw [rowS_ne (by omega)]; exact f56), (by rw [rowS_ne (by omega)]; exact f57), (by rw [rowS_ne (by omega)]; exact f58), (by rw [rowS_ne (by omega)]; exact f59), (by rw [rowS_ne (by omega)]; exact f60), (by rw [rowS_ne (by omega)]; exact f61), (by rw [rowS_ne (by omega)]; exact f62), (by rw [rowS_ne (by omega)]; exact f63), (by rw [rowS_ne (by omega)]; exact f64), (by rw [rowS_ne (by omega)]; exact f65), (by rw [rowS_ne (by omega)]; exact f66), (by rw [rowS_ne (by omega)]; exact f67), (by rw [rowS_ne (by omega)]; exact f68), (by rw [rowS_ne (by omega)]; exact f69), (by rw [rowS_ne (by omega)]; exact f70), (by rw [rowS_ne (by omega)]; exact f71), (tk_keep o24 (by decide) hx33), (tk_keep o25 (by decide) hx33), (tk_keep o26 (by decide) hx33), tT_eq, (nx7.mk9 (by decide)), (nx41.mk9 (by decide)), ne34j.1, ne34j.2⟩
  rw [← eT37]
  rw [← eS38]
  refine tn_putFr (ci := 7) (i := 6) (n := 61) (r := true) (v := (x32 : Int)) tyX7 tyX7_ok nmX7 dX7_init_25 rfl lay_7 (by decide) fl7_18 rfl rfl rfl (tyX7_ok 6 (by decide)) (vl_ref rfl).symm rfl rfl (cx39.r (by decide)) rfl rfl ?_
  obtain ⟨σ45, eS47, cx48, f55, f56, f57, f58, f59, f60, f61, f62, f63, f64, f65, f66, f67, f68, f69, f70, f71, cj⟩ : ∃ (σ45 : MS), σ45 = (sA 61 a ((x32 : Int)) σ36) ∧ CX a 7 K 27 3 T σ T35 σ45 ∧ (σ45.2.1 55 a = -1) ∧ (σ45.2.1 56 a = 0) ∧ (σ45.2.1 57 a = 0) ∧ (σ45.2.1 58 a = 0) ∧ (σ45.2.1 59 a = (x1 : Int)) ∧ (σ45.2.1 60 a = (x16 : Int)) ∧ (σ45.2.1 61 a = (x32 : Int)) ∧ (σ45.2.1 62 a = -1) ∧ (σ45.2.1 63 a = -1) ∧ (σ45.2.1 64 a = -1) ∧ (σ45.2.1 65 a = 0) ∧ (σ45.2.1 66 a = 0) ∧ (σ45.2.1 67 a = 0) ∧ (σ45.2.1 68 a = 0) ∧ (σ45.2.1 69 a = -1) ∧ (σ45.2.1 70 a = 0) ∧ (σ45.2.1 71 a = 0) ∧ CXJ S0 a 7 T T35 σ45 := ⟨_, rfl, (cx39.put (by decide)), (rc_o (by decide) f55), (rc_o (by decide) f56), (rc_o (by decide) f57), (rc_o (by decide) f58), (rc_o (by decide) f59), (rc_o (by decide) f60), ra_eq, (rc_o (by decide) f62), (rc_o (by decide) f63), (rc_o (by decide) f64), (rc_o (by decide) f65), (rc_o (by decide) f66), (rc_o (by decide) f67), (rc_o (by decide) f68), (rc_o (by decide) f69), (rc_o (by decide) f70), (rc_o (by decide) f71), (CXJ.putA cj cx39.1 (by decide) rfl un (by rw [o43]; decide) ne34z)⟩
  rw [← eS47]
  refine tn_aload_n dX7_init_28 rfl 0 rfl ?_
  refine tn_bipush dX7_init_29 (by decide) ?_
  refine tn_newI (N := 108) (k := 1) dX7_init_31 arC_int (by decide) rfl (by decide) (fun x49 hx50 => ?_)
  have ne51 := cx48.ne hx50
  have ne51z := (cx48.fresh hx50).resolve_right (fun e => ne51 e.symm)
  have ne51j := CXJ.new (T2 := (tT T35 x49 1 108)) (σ2 := (rowS (1000 + x49) (fun _ => 0) (gh 108 σ45))) cj cx48.1 cx48.2.1 hx50 (by rw [tT_eq]; decide) (fun b9 e9 => tT_ne e9) (fun n9 c9 hn9 hc9 => by rw [rowS_ne (by omega)]; rfl)
  obtain ⟨T52, σ53, eT54, eS55, cx56, f55, f56, f57, f58, f59, f60, f61, f62, f63, f64, f65, f66, f67, f68, f69, f70, f71, o57, o58, o59, o60, o61, nx7, nx41, cj, un⟩ : ∃ (T52 : CT) (σ53 : MS), T52 = (tT T35 x49 1 108) ∧ σ53 = (rowS (1000 + x49) (fun _ => 0) (gh 108 σ45)) ∧ CX a 7 K 135 4 T σ T52 σ53 ∧ (σ53.2.1 55 a = -1) ∧ (σ53.2.1 56 a = 0) ∧ (σ53.2.1 57 a = 0) ∧ (σ53.2.1 58 a = 0) ∧ (σ53.2.1 59 a = (x1 : Int)) ∧ (σ53.2.1 60 a = (x16 : Int)) ∧ (σ53.2.1 61 a = (x32 : Int)) ∧ (σ53.2.1 62 a = -1) ∧ (σ53.2.1 63 a = -1) ∧ (σ53.2.1 64 a = -1) ∧ (σ53.2.1 65 a = 0) ∧ (σ53.2.1 66 a = 0) ∧ (σ53.2.1 67 a = 0) ∧ (σ53.2.1 68 a = 0) ∧ (σ53.2.1 69 a = -1) ∧ (σ53.2.1 70 a = 0) ∧ (σ53.2.1 71 a = 0) ∧ (T52 cs = (4, 6)) ∧ (T52 x1 = (15, 9)) ∧ (T52 x16 = (1, 9)) ∧ (T52 x32 = (14, 9)) ∧ (T52 x49 = (1, 108)) ∧ NX 7 a T T52 ∧ NX 41 a T T52 ∧ CXJ S0 a 7 T T52 σ53 ∧ UNF a 7 x49 T52 σ53 := ⟨_, _, rfl, rfl, (cx48.newI hx50 (by decide)), (by rw [rowS_ne (by omega)]; exact f55), (by rw [rowS_ne (by omega)]; exact f56), (by rw [rowS_ne (by omega)]; exact f57), (by rw [rowS_ne (by omega)]; exact f58), (by rw [rowS_ne (by omega)]; exact f59), (by rw [rowS_ne (by omega)]; exact f60), (by rw [rowS_ne (by omega)]; exact f61), (by rw [rowS_ne (by omega)]; exact f62), (by rw [rowS_ne (by omega)]; exact f63), (by rw [rowS_ne (by omega)]; exact f64), (by rw [rowS_ne (by omega)]; exact f65), (by rw [rowS_ne (by omega)]; exact f66), (by rw [rowS_ne (by omega)]; exact f67), (by rw [rowS_ne (by omega)]; exact f68), (by rw [rowS_ne (by omega)]; exact f69), (by rw [rowS_ne (by omega)]; exact f70), (by rw [rowS_ne (by omega)]; exact f71), (tk_keep o40 (by decide) hx50), (tk_keep o41 (by decide) hx50), (tk_keep o42 (by decide) hx50), (tk_keep o43 (by decide) hx50), tT_eq, (nx7.mk9 (by decide)), (nx41.mk9 (by decide)), ne51j.1, ne51j.2⟩
  rw [← eT54]
  rw [← eS55]
  refine tn_putFr (ci := 7) (i := 7) (n := 62) (r := true) (v := (x49 : Int)) tyX7 tyX7_ok nmX7 dX7_init_33 rfl lay_7 (by decide) fl7_21 rfl rfl rfl (tyX7_ok 7 (by decide)) (vl_ref rfl).symm rfl rfl (cx56.r (by decide)) rfl rfl ?_
  obtain ⟨σ63, eS65, cx66, f55, f56, f57, f58, f59, f60, f61, f62, f63, f64, f65, f66, f67, f68, f69, f70, f71, cj⟩ : ∃ (σ63 : MS), σ63 = (sA 62 a ((x49 : Int)) σ53) ∧ CX a 7 K 135 4 T σ T52 σ63 ∧ (σ63.2.1 55 a = -1) ∧ (σ63.2.1 56 a = 0) ∧ (σ63.2.1 57 a = 0) ∧ (σ63.2.1 58 a = 0) ∧ (σ63.2.1 59 a = (x1 : Int)) ∧ (σ63.2.1 60 a = (x16 : Int)) ∧ (σ63.2.1 61 a = (x32 : Int)) ∧ (σ63.2.1 62 a = (x49 : Int)) ∧ (σ63.2.1 63 a = -1) ∧ (σ63.2.1 64 a = -1) ∧ (σ63.2.1 65 a = 0) ∧ (σ63.2.1 66 a = 0) ∧ (σ63.2.1 67 a = 0) ∧ (σ63.2.1 68 a = 0) ∧ (σ63.2.1 69 a = -1) ∧ (σ63.2.1 70 a = 0) ∧ (σ63.2.1 71 a = 0) ∧ CXJ S0 a 7 T T52 σ63 := ⟨_, rfl, (cx56.put (by decide)), (rc_o (by decide) f55), (rc_o (by decide) f56), (rc_o (by decide) f57), (rc_o (by decide) f58), (rc_o (by decide) f59), (rc_o (by decide) f60), (rc_o (by decide) f61), ra_eq, (rc_o (by decide) f63), (rc_o (by decide) f64), (rc_o (by decide) f65), (rc_o (by decide) f66), (rc_o (by decide) f67), (rc_o (by decide) f68), (rc_o (by decide) f69), (rc_o (by decide) f70), (rc_o (by decide) f71), (CXJ.putA cj cx56.1 (by decide) rfl un (by rw [o61]; decide) ne51z)⟩
  rw [← eS65]
  refine tn_aload_n dX7_init_36 rfl 0 rfl ?_
  refine tn_sipush dX7_init_37 (by decide) ?_
  refine tn_newI (N := 1728) (k := 1) dX7_init_40 arC_int (by decide) rfl (by decide) (fun x67 hx68 => ?_)
  have ne69 := cx66.ne hx68
  have ne69z := (cx66.fresh hx68).resolve_right (fun e => ne69 e.symm)
  have ne69j := CXJ.new (T2 := (tT T52 x67 1 1728)) (σ2 := (rowS (1000 + x67) (fun _ => 0) (gh 1728 σ63))) cj cx66.1 cx66.2.1 hx68 (by rw [tT_eq]; decide) (fun b9 e9 => tT_ne e9) (fun n9 c9 hn9 hc9 => by rw [rowS_ne (by omega)]; rfl)
  obtain ⟨T70, σ71, eT72, eS73, cx74, f55, f56, f57, f58, f59, f60, f61, f62, f63, f64, f65, f66, f67, f68, f69, f70, f71, o75, o76, o77, o78, o79, o80, nx7, nx41, cj, un⟩ : ∃ (T70 : CT) (σ71 : MS), T70 = (tT T52 x67 1 1728) ∧ σ71 = (rowS (1000 + x67) (fun _ => 0) (gh 1728 σ63)) ∧ CX a 7 K 1863 5 T σ T70 σ71 ∧ (σ71.2.1 55 a = -1) ∧ (σ71.2.1 56 a = 0) ∧ (σ71.2.1 57 a = 0) ∧ (σ71.2.1 58 a = 0) ∧ (σ71.2.1 59 a = (x1 : Int)) ∧ (σ71.2.1 60 a = (x16 : Int)) ∧ (σ71.2.1 61 a = (x32 : Int)) ∧ (σ71.2.1 62 a = (x49 : Int)) ∧ (σ71.2.1 63 a = -1) ∧ (σ71.2.1 64 a = -1) ∧ (σ71.2.1 65 a = 0) ∧ (σ71.2.1 66 a = 0) ∧ (σ71.2.1 67 a = 0) ∧ (σ71.2.1 68 a = 0) ∧ (σ71.2.1 69 a = -1) ∧ (σ71.2.1 70 a = 0) ∧ (σ71.2.1 71 a = 0) ∧ (T70 cs = (4, 6)) ∧ (T70 x1 = (15, 9)) ∧ (T70 x16 = (1, 9)) ∧ (T70 x32 = (14, 9)) ∧ (T70 x49 = (1, 108)) ∧ (T70 x67 = (1, 1728)) ∧ NX 7 a T T70 ∧ NX 41 a T T70 ∧ CXJ S0 a 7 T T70 σ71 ∧ UNF a 7 x67 T70 σ71 := ⟨_, _, rfl, rfl, (cx66.newI hx68 (by decide)), (by rw [rowS_ne (by omega)]; exact f55), (by rw [rowS_ne (by omega)]; exact f56), (by rw [rowS_ne (by omega)]; exact f57), (by rw [rowS_ne (by omega)]; exact f58), (by rw [rowS_ne (by omega)]; exact f59), (by rw [rowS_ne (by omega)]; exact f60), (by rw [rowS_ne (by omega)]; exact f61), (by rw [rowS_ne (by omega)]; exact f62), (by rw [rowS_ne (by omega)]; exact f63), (by rw [rowS_ne (by omega)]; exact f64), (by rw [rowS_ne (by omega)]; exact f65), (by rw [rowS_ne (by omega)]; exact f66), (by rw [rowS_ne (by omega)]; exact f67), (by rw [rowS_ne (by omega)]; exact f68), (by rw [rowS_ne (by omega)]; exact f69), (by rw [rowS_ne (by omega)]; exact f70), (by rw [rowS_ne (by omega)]; exact f71), (tk_keep o57 (by decide) hx68), (tk_keep o58 (by decide) hx68), (tk_keep o59 (by decide) hx68), (tk_keep o60 (by decide) hx68), (tk_keep o61 (by decide) hx68), tT_eq, (nx7.mk9 (by decide)), (nx41.mk9 (by decide)), ne69j.1, ne69j.2⟩
  rw [← eT72]
  rw [← eS73]
  refine tn_putFr (ci := 7) (i := 8) (n := 63) (r := true) (v := (x67 : Int)) tyX7 tyX7_ok nmX7 dX7_init_42 rfl lay_7 (by decide) fl7_24 rfl rfl rfl (tyX7_ok 8 (by decide)) (vl_ref rfl).symm rfl rfl (cx74.r (by decide)) rfl rfl ?_
  obtain ⟨σ82, eS84, cx85, f55, f56, f57, f58, f59, f60, f61, f62, f63, f64, f65, f66, f67, f68, f69, f70, f71, cj⟩ : ∃ (σ82 : MS), σ82 = (sA 63 a ((x67 : Int)) σ71) ∧ CX a 7 K 1863 5 T σ T70 σ82 ∧ (σ82.2.1 55 a = -1) ∧ (σ82.2.1 56 a = 0) ∧ (σ82.2.1 57 a = 0) ∧ (σ82.2.1 58 a = 0) ∧ (σ82.2.1 59 a = (x1 : Int)) ∧ (σ82.2.1 60 a = (x16 : Int)) ∧ (σ82.2.1 61 a = (x32 : Int)) ∧ (σ82.2.1 62 a = (x49 : Int)) ∧ (σ82.2.1 63 a = (x67 : Int)) ∧ (σ82.2.1 64 a = -1) ∧ (σ82.2.1 65 a = 0) ∧ (σ82.2.1 66 a = 0) ∧ (σ82.2.1 67 a = 0) ∧ (σ82.2.1 68 a = 0) ∧ (σ82.2.1 69 a = -1) ∧ (σ82.2.1 70 a = 0) ∧ (σ82.2.1 71 a = 0) ∧ CXJ S0 a 7 T T70 σ82 := ⟨_, rfl, (cx74.put (by decide)), (rc_o (by decide) f55), (rc_o (by decide) f56), (rc_o (by decide) f57), (rc_o (by decide) f58), (rc_o (by decide) f59), (rc_o (by decide) f60), (rc_o (by decide) f61), (rc_o (by decide) f62), ra_eq, (rc_o (by decide) f64), (rc_o (by decide) f65), (rc_o (by decide) f66), (rc_o (by decide) f67), (rc_o (by decide) f68), (rc_o (by decide) f69), (rc_o (by decide) f70), (rc_o (by decide) f71), (CXJ.putA cj cx74.1 (by decide) rfl un (by rw [o80]; decide) ne69z)⟩
  rw [← eS84]
  refine tn_aload_n dX7_init_45 rfl 0 rfl ?_
  refine tn_sipush dX7_init_46 (by decide) ?_
  refine tn_newI (N := 200) (k := 1) dX7_init_49 arC_int (by decide) rfl (by decide) (fun x86 hx87 => ?_)
  have ne88 := cx85.ne hx87
  have ne88z := (cx85.fresh hx87).resolve_right (fun e => ne88 e.symm)
  have ne88j := CXJ.new (T2 := (tT T70 x86 1 200)) (σ2 := (rowS (1000 + x86) (fun _ => 0) (gh 200 σ82))) cj cx85.1 cx85.2.1 hx87 (by rw [tT_eq]; decide) (fun b9 e9 => tT_ne e9) (fun n9 c9 hn9 hc9 => by rw [rowS_ne (by omega)]; rfl)
  obtain ⟨T89, σ90, eT91, eS92, cx93, f55, f56, f57, f58, f59, f60, f61, f62, f63, f64, f65, f66, f67, f68, f69, f70, f71, o94, o95, o96, o97, o98, o99, o100, nx7, nx41, cj, un⟩ : ∃ (T89 : CT) (σ90 : MS), T89 = (tT T70 x86 1 200) ∧ σ90 = (rowS (1000 + x86) (fun _ => 0) (gh 200 σ82)) ∧ CX a 7 K 2063 6 T σ T89 σ90 ∧ (σ90.2.1 55 a = -1) ∧ (σ90.2.1 56 a = 0) ∧ (σ90.2.1 57 a = 0) ∧ (σ90.2.1 58 a = 0) ∧ (σ90.2.1 59 a = (x1 : Int)) ∧ (σ90.2.1 60 a = (x16 : Int)) ∧ (σ90.2.1 61 a = (x32 : Int)) ∧ (σ90.2.1 62 a = (x49 : Int)) ∧ (σ90.2.1 63 a = (x67 : Int)) ∧ (σ90.2.1 64 a = -1) ∧ (σ90.2.1 65 a = 0) ∧ (σ90.2.1 66 a = 0) ∧ (σ90.2.1 67 a = 0) ∧ (σ90.2.1 68 a = 0) ∧ (σ90.2.1 69 a = -1) ∧ (σ90.2.1 70 a = 0) ∧ (σ90.2.1 71 a = 0) ∧ (T89 cs = (4, 6)) ∧ (T89 x1 = (15, 9)) ∧ (T89 x16 = (1, 9)) ∧ (T89 x32 = (14, 9)) ∧ (T89 x49 = (1, 108)) ∧ (T89 x67 = (1, 1728)) ∧ (T89 x86 = (1, 200)) ∧ NX 7 a T T89 ∧ NX 41 a T T89 ∧ CXJ S0 a 7 T T89 σ90 ∧ UNF a 7 x86 T89 σ90 := ⟨_, _, rfl, rfl, (cx85.newI hx87 (by decide)), (by rw [rowS_ne (by omega)]; exact f55), (by rw [rowS_ne (by omega)]; exact f56), (by rw [rowS_ne (by omega)]; exact f57), (by rw [rowS_ne (by omega)]; exact f58), (by rw [rowS_ne (by omega)]; exact f59), (by rw [rowS_ne (by omega)]; exact f60), (by rw [rowS_ne (by omega)]; exact f61), (by rw [rowS_ne (by omega)]; exact f62), (by rw [rowS_ne (by omega)]; exact f63), (by rw [rowS_ne (by omega)]; exact f64), (by rw [rowS_ne (by omega)]; exact f65), (by rw [rowS_ne (by omega)]; exact f66), (by rw [rowS_ne (by omega)]; exact f67), (by rw [rowS_ne (by omega)]; exact f68), (by rw [rowS_ne (by omega)]; exact f69), (by rw [rowS_ne (by omega)]; exact f70), (by rw [rowS_ne (by omega)]; exact f71), (tk_keep o75 (by decide) hx87), (tk_keep o76 (by decide) hx87), (tk_keep o77 (by decide) hx87), (tk_keep o78 (by decide) hx87), (tk_keep o79 (by decide) hx87), (tk_keep o80 (by decide) hx87), tT_eq, (nx7.mk9 (by decide)), (nx41.mk9 (by decide)), ne88j.1, ne88j.2⟩
  rw [← eT91]
  rw [← eS92]
  refine tn_putFr (ci := 7) (i := 9) (n := 64) (r := true) (v := (x86 : Int)) tyX7 tyX7_ok nmX7 dX7_init_51 rfl lay_7 (by decide) fl7_27 rfl rfl rfl (tyX7_ok 9 (by decide)) (vl_ref rfl).symm rfl rfl (cx93.r (by decide)) rfl rfl ?_
  obtain ⟨σ102, eS104, cx105, f55, f56, f57, f58, f59, f60, f61, f62, f63, f64, f65, f66, f67, f68, f69, f70, f71, cj⟩ : ∃ (σ102 : MS), σ102 = (sA 64 a ((x86 : Int)) σ90) ∧ CX a 7 K 2063 6 T σ T89 σ102 ∧ (σ102.2.1 55 a = -1) ∧ (σ102.2.1 56 a = 0) ∧ (σ102.2.1 57 a = 0) ∧ (σ102.2.1 58 a = 0) ∧ (σ102.2.1 59 a = (x1 : Int)) ∧ (σ102.2.1 60 a = (x16 : Int)) ∧ (σ102.2.1 61 a = (x32 : Int)) ∧ (σ102.2.1 62 a = (x49 : Int)) ∧ (σ102.2.1 63 a = (x67 : Int)) ∧ (σ102.2.1 64 a = (x86 : Int)) ∧ (σ102.2.1 65 a = 0) ∧ (σ102.2.1 66 a = 0) ∧ (σ102.2.1 67 a = 0) ∧ (σ102.2.1 68 a = 0) ∧ (σ102.2.1 69 a = -1) ∧ (σ102.2.1 70 a = 0) ∧ (σ102.2.1 71 a = 0) ∧ CXJ S0 a 7 T T89 σ102 := ⟨_, rfl, (cx93.put (by decide)), (rc_o (by decide) f55), (rc_o (by decide) f56), (rc_o (by decide) f57), (rc_o (by decide) f58), (rc_o (by decide) f59), (rc_o (by decide) f60), (rc_o (by decide) f61), (rc_o (by decide) f62), (rc_o (by decide) f63), ra_eq, (rc_o (by decide) f65), (rc_o (by decide) f66), (rc_o (by decide) f67), (rc_o (by decide) f68), (rc_o (by decide) f69), (rc_o (by decide) f70), (rc_o (by decide) f71), (CXJ.putA cj cx93.1 (by decide) rfl un (by rw [o100]; decide) ne88z)⟩
  rw [← eS104]
  refine tn_aload_n dX7_init_54 rfl 0 rfl ?_
  refine tn_aload_n dX7_init_55 rfl 1 rfl ?_
  refine tn_putFr (ci := 7) (i := 0) (n := 55) (r := true) (v := (cs : Int)) tyX7 tyX7_ok nmX7 dX7_init_56 rfl lay_7 (by decide) fl7_30 rfl rfl rfl (tyX7_ok 0 (by decide)) (vl_ref rfl).symm rfl rfl (cx105.r (by decide)) rfl rfl ?_
  obtain ⟨σ107, eS109, cx110, f55, f56, f57, f58, f59, f60, f61, f62, f63, f64, f65, f66, f67, f68, f69, f70, f71, cj⟩ : ∃ (σ107 : MS), σ107 = (sA 55 a ((cs : Int)) σ102) ∧ CX a 7 K 2063 6 T σ T89 σ107 ∧ (σ107.2.1 55 a = (cs : Int)) ∧ (σ107.2.1 56 a = 0) ∧ (σ107.2.1 57 a = 0) ∧ (σ107.2.1 58 a = 0) ∧ (σ107.2.1 59 a = (x1 : Int)) ∧ (σ107.2.1 60 a = (x16 : Int)) ∧ (σ107.2.1 61 a = (x32 : Int)) ∧ (σ107.2.1 62 a = (x49 : Int)) ∧ (σ107.2.1 63 a = (x67 : Int)) ∧ (σ107.2.1 64 a = (x86 : Int)) ∧ (σ107.2.1 65 a = 0) ∧ (σ107.2.1 66 a = 0) ∧ (σ107.2.1 67 a = 0) ∧ (σ107.2.1 68 a = 0) ∧ (σ107.2.1 69 a = -1) ∧ (σ107.2.1 70 a = 0) ∧ (σ107.2.1 71 a = 0) ∧ CXJ S0 a 7 T T89 σ107 := ⟨_, rfl, (cx105.put (by decide)), ra_eq, (rc_o (by decide) f56), (rc_o (by decide) f57), (rc_o (by decide) f58), (rc_o (by decide) f59), (rc_o (by decide) f60), (rc_o (by decide) f61), (rc_o (by decide) f62), (rc_o (by decide) f63), (rc_o (by decide) f64), (rc_o (by decide) f65), (rc_o (by decide) f66), (rc_o (by decide) f67), (rc_o (by decide) f68), (rc_o (by decide) f69), (rc_o (by decide) f70), (rc_o (by decide) f71), (CXJ.put cj cx105.1 cx105.2.1 (by decide))⟩
  rw [← eS109]
  refine tn_tag (ci := 7) (k := 57) (by decide) cx110.1 (by decide) ?_
  have hf9 : ∀ m, m < 111 → cls m = 7 → FO m 57 T89 (σ107.2.1 m a) := fun m hm9 hc9 => by
    have q9 := clsR_7 m hm9 hc9
    have q8 : m = 55 ∨ m = 56 ∨ m = 57 ∨ m = 58 ∨ m = 59 ∨ m = 60 ∨ m = 61 ∨ m = 62 ∨ m = 63 ∨ m = 64 ∨ m = 65 ∨ m = 66 ∨ m = 67 ∨ m = 68 ∨ m = 69 ∨ m = 70 ∨ m = 71 := by omega
    rcases q8 with q8 | q8 | q8 | q8 | q8 | q8 | q8 | q8 | q8 | q8 | q8 | q8 | q8 | q8 | q8 | q8 | q8
    · subst q8; rw [f55]; exact fo_55 ⟨_, rfl, by rw [o94], fun _ => tg1 o94, fun h => absurd rfl h⟩
    · subst q8; rw [f56]; exact fo_56 (by decide)
    · subst q8; rw [f57]; exact fo_57 (by decide)
    · subst q8; rw [f58]; exact fo_58 (by decide)
    · subst q8; rw [f59]; exact fo_59 (⟨_, rfl, AR.of o95 (by decide) (by decide)⟩)
    · subst q8; rw [f60]; exact fo_60 (⟨_, rfl, AR.of o96 (by decide) (by decide)⟩)
    · subst q8; rw [f61]; exact fo_61 ⟨_, rfl, by rw [o97], fun _ => tg1 o97, fun h => absurd rfl h⟩
    · subst q8; rw [f62]; exact fo_62 (⟨_, rfl, AR.of o98 (by decide) (by decide)⟩)
    · subst q8; rw [f63]; exact fo_63 (⟨_, rfl, AR.of o99 (by decide) (by decide)⟩)
    · subst q8; rw [f64]; exact fo_64 (⟨_, rfl, AR.of o100 (by decide) (by decide)⟩)
    · subst q8; rw [f65]; exact fo_65 (by decide)
    · subst q8; rw [f66]; exact fo_66 (by decide)
    · subst q8; rw [f67]; exact fo_67 (by decide)
    · subst q8; rw [f68]; exact fo_68 (by decide)
    · subst q8; rw [f69]; exact fo_69 (Or.inl (by decide))
    · subst q8; rw [f70]; exact fo_70 (by decide)
    · subst q8; rw [f71]; exact fo_71 (by decide)
  have jq9 : ∀ f ∈ AFL, cls f = 7 → f = 59 ∨ f = 60 ∨ f = 61 ∨ f = 62 ∨ f = 63 ∨ f = 64 := by decide
  have cjf := CXJ.fin (k := 57) cj cx110.1 (by decide) (fun f9 h9 c9 => by
    have q7 := jq9 f9 h9 c9
    rcases q7 with q7 | q7 | q7 | q7 | q7 | q7
    · subst q7; rw [f59]; exact Int.natCast_nonneg _
    · subst q7; rw [f60]; exact Int.natCast_nonneg _
    · subst q7; rw [f61]; exact Int.natCast_nonneg _
    · subst q7; rw [f62]; exact Int.natCast_nonneg _
    · subst q7; rw [f63]; exact Int.natCast_nonneg _
    · subst q7; rw [f64]; exact Int.natCast_nonneg _)
  exact tn_vret rfl dX7_init_59 ⟨rfl, tT_eq, cx110.2.1.tag cx110.1 (by decide) hf9 (fun h => absurd h (by decide)), cx110.2.2.1.tag (by rw [cx110.1]; decide) (by decide), cx110.2.2.2.1.tag, cx110.2.2.2.2.1, cx110.2.2.2.2.2, cjf.1, cjf.2, nx7.tag, nx41.tag, f57, f55, f56⟩
end
section
set_option maxHeartbeats 1000000 in
set_option maxRecDepth 20000 in
theorem kj_X0_init_30 (d : Nat) {T : CT} {σ : MS} {a : Nat} {K : List Nat} {cs : Nat} {mc : Nat} (hraw : T a = (80 + 0, 0)) (hb : WTn T σ) (hcd : CD K T) (hdf : ∀ j, j < 200 → σ.2.1 j (a : Int) = dfF j) {S0 : Nat → Prop} (hij : INJT S0 T σ) (h_cs : T cs = (5, 6)) (h_mc : T mc = (4, 6)) : Tn (d + 2) m_X0_init 0 T σ [(0, .ref a), (1, .ref cs), (2, .ref mc)] [] (fun ro T2 σ2 => ro = none ∧ T2 a = (30, 0) ∧ WTn T2 σ2 ∧ CD K T2 ∧ KPx a T σ T2 σ2 ∧ σ2.1 0 = σ.1 0 + (4160 : Nat) ∧ σ2.1 1 = σ.1 1 + (14 : Nat) ∧ INJT S0 T2 σ2 ∧ FRN T T2 σ2 ∧ NX 7 a T T2 ∧ NX 41 a T T2 ∧ ∃ t t1 : Nat, σ2.2.1 0 (a : Int) = (t : Int) ∧ σ2.2.1 1 (a : Int) = (t1 : Int) ∧ (T t).1 = 0 ∧ (T t1).1 = 0) := by
  have cx0 : CX a 0 K 0 0 T σ T σ := CX.begin hraw hb hcd
  have cj : CXJ S0 a 0 T T σ := CXJ.begin hraw (fun f9 h9 c9 => (hdf f9 (by have := afl_lt h9; omega)).trans ((by decide : ∀ f ∈ AFL, dfF f = -1) f9 h9)) hij
  have nx7 : NX 7 a T T := NX.begin (by decide)
  have nx41 : NX 41 a T T := NX.begin (by decide)
  have f0 : σ.2.1 0 a = -1 := (hdf 0 (by decide)).trans (by decide)
  have f1 : σ.2.1 1 a = -1 := (hdf 1 (by decide)).trans (by decide)
  have f2 : σ.2.1 2 a = 0 := (hdf 2 (by decide)).trans (by decide)
  have f3 : σ.2.1 3 a = 0 := (hdf 3 (by decide)).trans (by decide)
  have f4 : σ.2.1 4 a = 0 := (hdf 4 (by decide)).trans (by decide)
  refine tn_aload_n dX0_init_0 rfl 0 rfl ?_
  refine tn_objInit dX0_init_1 mlo0_3 oiI oiC (by omega) (Nat.le_of_ble_eq_true rfl) ?_
  refine tn_aload_n dX0_init_4 rfl 0 rfl ?_
  refine tn_newO (ci := 7) (N := 17) tyX7 tyX7_ok dX0_init_5 rfl lay_7 cl0_9 ist_7 ini_7 df_7 rfl (by decide) hfd_7 (fun x1 hx2 => ?_)
  have ne3 := cx0.ne hx2
  have df4z := (cx0.fresh hx2).resolve_right (fun e => ne3 e.symm)
  have df4 : ∀ j, j < 200 → (objS x1 (gh 17 σ)).2.1 j (x1 : Int) = dfF j := fun j hj => objS_eq hj
  have ne3j := CXJ.new (T2 := (tT T x1 (80 + 7) 0)) (σ2 := (objS x1 (gh 17 σ))) cj cx0.1 cx0.2.1 hx2 (by rw [tT_eq]; decide) (fun b9 e9 => tT_ne e9) (fun n9 c9 hn9 hc9 => by rw [objS_ne (by omega)]; rfl)
  obtain ⟨T5, σ6, eT7, eS8, cx9, f0, f1, f2, f3, f4, o10, o11, o12, nx7, nx41, cj⟩ : ∃ (T5 : CT) (σ6 : MS), T5 = (tT T x1 (80 + 7) 0) ∧ σ6 = (objS x1 (gh 17 σ)) ∧ CX a 0 K 17 1 T σ T5 σ6 ∧ (σ6.2.1 0 a = -1) ∧ (σ6.2.1 1 a = -1) ∧ (σ6.2.1 2 a = 0) ∧ (σ6.2.1 3 a = 0) ∧ (σ6.2.1 4 a = 0) ∧ (T5 cs = (5, 6)) ∧ (T5 mc = (4, 6)) ∧ (T5 x1 = (87, 0)) ∧ NX 7 a T T5 ∧ NX 41 a T T5 ∧ CXJ S0 a 0 T T5 σ6 := ⟨_, _, rfl, rfl, (cx0.newO hx2 (by decide)), (by rw [objS_ne (by omega)]; exact f0), (by rw [objS_ne (by omega)]; exact f1), (by rw [objS_ne (by omega)]; exact f2), (by rw [objS_ne (by omega)]; exact f3), (by rw [objS_ne (by omega)]; exact f4), (tk_keep h_cs (by decide) hx2), (tk_keep h_mc (by decide) hx2), tT_eq, (nx7.mk9 (by decide)), (nx41.mk9 (by decide)), ne3j.1⟩
  rw [← eT7]
  rw [← eS8]
  rw [← eS8] at df4
  refine tn_dup dX0_init_8 rfl ?_
  refine tn_aload_n dX0_init_9 rfl 1 rfl ?_
  refine tn_callI (M := m_X0_init) (pc := 10) (ix := 11) (M' := m_X7_init) (As := [.ref cs]) (rest := [.ref x1, .ref a]) dX0_init_10 ok_X7_init rfl rfl im_X7_init ml0_11 np_X7_init rfl (Nat.le_of_ble_eq_true rfl) (Nat.le_of_ble_eq_true rfl) rfl (kj_X7_init_37 (d) (T := T5) (σ := σ6) (a := x1) (K := K) (cs := cs) o12 cx9.2.1 cx9.2.2.1 df4 cj.1 o10) (fun r13 T14 σ15 gt16 hp => ?_)
  obtain ⟨rfl, hr17, w18, cd19, kp20, ga21, gb22, hr17i, hr17f, hr17n7, hr17n41, -⟩ := hp
  have ne3b : a ≠ x1 := ne_of cx9.1 o12 (by decide)
  have kp20a := kp20.1 a (by rw [cx9.1]; decide) ne3b
  obtain ⟨T23, σ24, eT25, eS26, cx27, f0, f1, f2, f3, f4, o28, o29, o30, nx7, nx41, cj⟩ : ∃ (T23 : CT) (σ24 : MS), T23 = T14 ∧ σ24 = σ15 ∧ CX a 0 K 2080 7 T σ T23 σ24 ∧ (σ24.2.1 0 a = -1) ∧ (σ24.2.1 1 a = -1) ∧ (σ24.2.1 2 a = 0) ∧ (σ24.2.1 3 a = 0) ∧ (σ24.2.1 4 a = 0) ∧ (T23 cs = (5, 6)) ∧ (T23 mc = (4, 6)) ∧ (T23 x1 = (37, 0)) ∧ NX 7 a T T23 ∧ NX 41 a T T23 ∧ CXJ S0 a 0 T T23 σ24 := ⟨_, _, rfl, rfl, (cx9.call ne3b w18 cd19 kp20 ga21 gb22 df4z), ((kp20a.2.1 0 (by decide)).trans f0), ((kp20a.2.1 1 (by decide)).trans f1), ((kp20a.2.1 2 (by decide)).trans f2), ((kp20a.2.1 3 (by decide)).trans f3), ((kp20a.2.1 4 (by decide)).trans f4), ((kp20.1 cs (by rw [o10]; decide) (ne_of o10 o12 (by decide))).1.trans o10), ((kp20.1 mc (by rw [o11]; decide) (ne_of o11 o12 (by decide))).1.trans o11), hr17, (nx7.call kp20 hr17 (by decide) hr17n7), (nx41.call kp20 hr17 (by decide) hr17n41), (CXJ.call cj cx9.1 cx9.2.1 cx9.2.2.2.1 ne3b kp20 (by rw [o12]; decide) hr17i hr17f)⟩
  rw [← eT25]
  rw [← eS26]
  show Tn _ _ 13 T23 σ24 [(0, .ref a), (1, .ref cs), (2, .ref mc)] [.ref x1, .ref a] _
  refine tn_putFr (ci := 0) (i := 0) (n := 0) (r := true) (v := (x1 : Int)) tyX0 tyX0_ok nmX0 dX0_init_13 rfl lay_0 (by decide) fl0_14 rfl rfl rfl (tyX0_ok 0 (by decide)) (vl_ref rfl).symm rfl rfl (cx27.r (by decide)) rfl rfl ?_
  obtain ⟨σ32, eS34, cx35, f0, f1, f2, f3, f4, cj⟩ : ∃ (σ32 : MS), σ32 = (sA 0 a ((x1 : Int)) σ24) ∧ CX a 0 K 2080 7 T σ T23 σ32 ∧ (σ32.2.1 0 a = (x1 : Int)) ∧ (σ32.2.1 1 a = -1) ∧ (σ32.2.1 2 a = 0) ∧ (σ32.2.1 3 a = 0) ∧ (σ32.2.1 4 a = 0) ∧ CXJ S0 a 0 T T23 σ32 := ⟨_, rfl, (cx27.put (by decide)), ra_eq, (rc_o (by decide) f1), (rc_o (by decide) f2), (rc_o (by decide) f3), (rc_o (by decide) f4), (CXJ.put cj cx27.1 cx27.2.1 (by decide))⟩
  rw [← eS34]
  refine tn_aload_n dX0_init_16 rfl 0 rfl ?_
  refine tn_newO (ci := 7) (N := 17) tyX7 tyX7_ok dX0_init_17 rfl lay_7 cl0_9 ist_7 ini_7 df_7 rfl (by decide) hfd_7 (fun x36 hx37 => ?_)
  have ne38 := cx35.ne hx37
  have df39z := (cx35.fresh hx37).resolve_right (fun e => ne38 e.symm)
  have df39 : ∀ j, j < 200 → (objS x36 (gh 17 σ32)).2.1 j (x36 : Int) = dfF j := fun j hj => objS_eq hj
  have ne38j := CXJ.new (T2 := (tT T23 x36 (80 + 7) 0)) (σ2 := (objS x36 (gh 17 σ32))) cj cx35.1 cx35.2.1 hx37 (by rw [tT_eq]; decide) (fun b9 e9 => tT_ne e9) (fun n9 c9 hn9 hc9 => by rw [objS_ne (by omega)]; rfl)
  obtain ⟨T40, σ41, eT42, eS43, cx44, f0, f1, f2, f3, f4, o45, o46, o47, o48, nx7, nx41, cj⟩ : ∃ (T40 : CT) (σ41 : MS), T40 = (tT T23 x36 (80 + 7) 0) ∧ σ41 = (objS x36 (gh 17 σ32)) ∧ CX a 0 K 2097 8 T σ T40 σ41 ∧ (σ41.2.1 0 a = (x1 : Int)) ∧ (σ41.2.1 1 a = -1) ∧ (σ41.2.1 2 a = 0) ∧ (σ41.2.1 3 a = 0) ∧ (σ41.2.1 4 a = 0) ∧ (T40 cs = (5, 6)) ∧ (T40 mc = (4, 6)) ∧ (T40 x1 = (37, 0)) ∧ (T40 x36 = (87, 0)) ∧ NX 7 a T T40 ∧ NX 41 a T T40 ∧ CXJ S0 a 0 T T40 σ41 := ⟨_, _, rfl, rfl, (cx35.newO hx37 (by decide)), (by rw [objS_ne (by omega)]; exact f0), (by rw [objS_ne (by omega)]; exact f1), (by rw [objS_ne (by omega)]; exact f2), (by rw [objS_ne (by omega)]; exact f3), (by rw [objS_ne (by omega)]; exact f4), (tk_keep o28 (by decide) hx37), (tk_keep o29 (by decide) hx37), (tk_keep o30 (by decide) hx37), tT_eq, (nx7.mk9 (by decide)), (nx41.mk9 (by decide)), ne38j.1⟩
  rw [← eT42]
  rw [← eS43]
  rw [← eS43] at df39
  refine tn_dup dX0_init_20 rfl ?_
  refine tn_aload_n dX0_init_21 rfl 2 rfl ?_
  refine tn_callI (M := m_X0_init) (pc := 22) (ix := 11) (M' := m_X7_init) (As := [.ref mc]) (rest := [.ref x36, .ref a]) dX0_init_22 ok_X7_init rfl rfl im_X7_init ml0_11 np_X7_init rfl (Nat.le_of_ble_eq_true rfl) (Nat.le_of_ble_eq_true rfl) rfl (kj_X7_init_57 (d) (T := T40) (σ := σ41) (a := x36) (K := K) (cs := mc) o48 cx44.2.1 cx44.2.2.1 df39 cj.1 o46) (fun r49 T50 σ51 gt52 hp => ?_)
  obtain ⟨rfl, hr53, w54, cd55, kp56, ga57, gb58, hr53i, hr53f, hr53n7, hr53n41, -⟩ := hp
  have ne38b : a ≠ x36 := ne_of cx44.1 o48 (by decide)
  have kp56a := kp56.1 a (by rw [cx44.1]; decide) ne38b
  obtain ⟨T59, σ60, eT61, eS62, cx63, f0, f1, f2, f3, f4, o64, o65, o66, o67, nx7, nx41, cj⟩ : ∃ (T59 : CT) (σ60 : MS), T59 = T50 ∧ σ60 = σ51 ∧ CX a 0 K 4160 14 T σ T59 σ60 ∧ (σ60.2.1 0 a = (x1 : Int)) ∧ (σ60.2.1 1 a = -1) ∧ (σ60.2.1 2 a = 0) ∧ (σ60.2.1 3 a = 0) ∧ (σ60.2.1 4 a = 0) ∧ (T59 cs = (5, 6)) ∧ (T59 mc = (4, 6)) ∧ (T59 x1 = (37, 0)) ∧ (T59 x36 = (57, 0)) ∧ NX 7 a T T59 ∧ NX 41 a T T59 ∧ CXJ S0 a 0 T T59 σ60 := ⟨_, _, rfl, rfl, (cx44.call ne38b w54 cd55 kp56 ga57 gb58 df39z), ((kp56a.2.1 0 (by decide)).trans f0), ((kp56a.2.1 1 (by decide)).trans f1), ((kp56a.2.1 2 (by decide)).trans f2), ((kp56a.2.1 3 (by decide)).trans f3), ((kp56a.2.1 4 (by decide)).trans f4), ((kp56.1 cs (by rw [o45]; decide) (ne_of o45 o48 (by decide))).1.trans o45), ((kp56.1 mc (by rw [o46]; decide) (ne_of o46 o48 (by decide))).1.trans o46), ((kp56.1 x1 (by rw [o47]; decide) (ne_of o47 o48 (by decide))).1.trans o47), hr53, (nx7.call kp56 hr53 (by decide) hr53n7), (nx41.call kp56 hr53 (by decide) hr53n41), (CXJ.call cj cx44.1 cx44.2.1 cx44.2.2.2.1 ne38b kp56 (by rw [o48]; decide) hr53i hr53f)⟩
  rw [← eT61]
  rw [← eS62]
  show Tn _ _ 25 T59 σ60 [(0, .ref a), (1, .ref cs), (2, .ref mc)] [.ref x36, .ref a] _
  refine tn_putFr (ci := 0) (i := 1) (n := 1) (r := true) (v := (x36 : Int)) tyX0 tyX0_ok nmX0 dX0_init_25 rfl lay_0 (by decide) fl0_20 rfl rfl rfl (tyX0_ok 1 (by decide)) (vl_ref rfl).symm rfl rfl (cx63.r (by decide)) rfl rfl ?_
  obtain ⟨σ69, eS71, cx72, f0, f1, f2, f3, f4, cj⟩ : ∃ (σ69 : MS), σ69 = (sA 1 a ((x36 : Int)) σ60) ∧ CX a 0 K 4160 14 T σ T59 σ69 ∧ (σ69.2.1 0 a = (x1 : Int)) ∧ (σ69.2.1 1 a = (x36 : Int)) ∧ (σ69.2.1 2 a = 0) ∧ (σ69.2.1 3 a = 0) ∧ (σ69.2.1 4 a = 0) ∧ CXJ S0 a 0 T T59 σ69 := ⟨_, rfl, (cx63.put (by decide)), (rc_o (by decide) f0), ra_eq, (rc_o (by decide) f2), (rc_o (by decide) f3), (rc_o (by decide) f4), (CXJ.put cj cx63.1 cx63.2.1 (by decide))⟩
  rw [← eS71]
  refine tn_tag (ci := 0) (k := 30) (by decide) cx72.1 (by decide) ?_
  have hf9 : ∀ m, m < 111 → cls m = 0 → FO m 30 T59 (σ69.2.1 m a) := fun m hm9 hc9 => by
    have q9 := clsR_0 m hm9 hc9
    have q8 : m = 0 ∨ m = 1 ∨ m = 2 ∨ m = 3 ∨ m = 4 := by omega
    rcases q8 with q8 | q8 | q8 | q8 | q8
    · subst q8; rw [f0]; exact fo_0 (⟨_, rfl, tg1 o66⟩)
    · subst q8; rw [f1]; exact fo_1 (⟨_, rfl, tg1 o67⟩)
    · subst q8; rw [f2]; exact fo_2 (by decide)
    · subst q8; rw [f3]; exact fo_3 (by decide)
    · subst q8; rw [f4]; exact fo_4 (by decide)
  have jq9 : ∀ f ∈ AFL, cls f = 0 → False := by decide
  have cjf := CXJ.fin (k := 30) cj cx72.1 (by decide) (fun f9 h9 c9 => by exact (jq9 f9 h9 c9).elim)
  exact tn_vret rfl dX0_init_28 ⟨rfl, tT_eq, cx72.2.1.tag cx72.1 (by decide) hf9 (fun h => absurd h (by decide)), cx72.2.2.1.tag (by rw [cx72.1]; decide) (by decide), cx72.2.2.2.1.tag, cx72.2.2.2.2.1, cx72.2.2.2.2.2, cjf.1, cjf.2, nx7.tag, nx41.tag, ⟨_, _, f0, f1, df4z, df39z⟩⟩
end
section
def PRQ (T : CT) (σ : MS) (T2 : CT) (σ2 : MS) (a : Nat) : Prop := (∀ (f b : Nat), f < 200 → (T b).1 ≠ 0 → ¬ (f = 110 ∧ b = a) → σ2.2.1 f (b : Int) = σ.2.1 f b) ∧ (∀ x : Nat, (T x).1 ≠ 0 → σ2.2.1 (1000 + x) = σ.2.1 (1000 + x)) ∧ σ2.2.1 900 = σ.2.1 900 ∧ GT T T2
section PRQS
variable {S : Nat → Prop} {T T1 T2 : CT} {σ S1 S2 σ2 : MS} {a x : Nat}
theorem PRQ.mk (hx : (T x).1 = 0) (hT1 : ∀ c, c ≠ x → T1 c = T c) (hf1 : ∀ n c, n < 200 → c ≠ x → S1.2.1 n (c : Int) = σ.2.1 n c) (h91 : S1.2.1 900 = σ.2.1 900) (eS : S1 = objS x (gh 5 σ)) (k1 : KPx x T1 S1 T2 S2) : PRQ T σ T2 (sA 110 a x S2) a := by
  refine ⟨fun f b hf hb hn => ?_, fun y hy => ?_, ?_, fun c z1 z2 => ?_⟩
  · have e : b ≠ x := fun e => hb (by rw [e]; exact hx)
    have k := k1.1 b (by rw [hT1 b e]; exact hb) e
    by_cases q : f = 110
    · rw [sA_ne (by omega), k.2.1 f hf, hf1 f b hf e]
    · rw [sA_k q, k.2.1 f hf, hf1 f b hf e]
  · have e : y ≠ x := fun e => hy (by rw [e]; exact hx)
    have k := k1.1 y (by rw [hT1 y e]; exact hy) e
    rw [sA_k (by omega), k.2.2, eS, objS_hi (by omega)]
    rfl
  · rw [sA_k (by omega), k1.2, h91]
  · have e : c ≠ x := fun e => z1 (by rw [e]; exact hx)
    exact ((k1.1 c (by rw [hT1 c e]; exact z1) e).1).trans (hT1 c e)
theorem inj_new (hI : INJ S T σ) (hT1 : ∀ c, c ≠ x → T1 c = T c) (hx1 : T1 x = (80, 0)) (hf1 : ∀ n c, n < 200 → c ≠ x → S1.2.1 n (c : Int) = σ.2.1 n c) : INJT (fun b => S b ∨ (T b).1 = 0) T1 S1 := by
  have nx : ∀ b, FIN T1 b → b ≠ x := fun b h e => by
    have z := h.2
    rw [e, hx1] at z
    exact absurd z (by decide)
  have sb : ∀ b, FIN T1 b ∧ (S b ∨ (T b).1 = 0) → S b ∧ T1 b = T b := fun b h => by
    have e := hT1 b (nx b h.1)
    refine ⟨h.2.resolve_right (fun z => ?_), e⟩
    have w := h.1.1
    rw [e] at w
    omega
  refine ⟨fun b h => h.1, fun f g a b hf hg ha hb oa ob e => ?_⟩
  have lf := afl_lt hf
  have lg := afl_lt hg
  have ea : adN S1 f a = adN σ f a := by unfold adN; rw [hf1 f a (by omega) (nx a ha.1)]
  have eb : adN S1 g b = adN σ g b := by unfold adN; rw [hf1 g b (by omega) (nx b hb.1)]
  rw [ea, eb] at e
  exact hI.2 f g a b hf hg (sb a ha).1 (sb b hb).1 (by unfold OB at *; rw [(sb a ha).2] at oa; exact oa) (by unfold OB at *; rw [(sb b hb).2] at ob; exact ob) e
def NW6 (S : Nat → Prop) (T T2 : CT) (b : Nat) : Prop := FIN T2 b ∧ (S b ∨ (T b).1 = 0)
def PRI (S : Nat → Prop) (T T2 : CT) (σ2 : MS) (a : Nat) : Prop := (∀ b, S b → NW6 S T T2 b) ∧ INJ (NW6 S T T2) T2 σ2 ∧ (∀ f b : Nat, f ∈ AFL → FIN T2 b → (T b).1 = 0 → OB T2 b (cls f) → (T (adN σ2 f b)).1 = 0) ∧ ∀ p : Nat, σ2.2.1 110 a = (p : Int) → ((T (adN σ2 0 p)).1 = 0 ∧ (T (adN σ2 1 p)).1 = 0)
theorem pair_inj {tt tt1 : Nat} (hI : INJ S T σ) (hx : (T x).1 = 0) (hT1 : ∀ c, c ≠ x → T1 c = T c) (k1 : KPx x T1 S1 T2 S2) (hx1 : T1 x = (80, 0)) (hij : INJT (fun b => S b ∨ (T b).1 = 0) T2 S2) (frn : FRN T1 T2 S2) (h0 : S2.2.1 0 (x : Int) = (tt : Int)) (h1 : S2.2.1 1 (x : Int) = (tt1 : Int)) (z0 : (T1 tt).1 = 0) (z1 : (T1 tt1).1 = 0) : PRI S T T2 (sA 110 a x S2) a := by
  have tz : ∀ c, (T1 c).1 = 0 → (T c).1 = 0 := fun c h => by
    by_cases e : c = x
    · rw [e]; exact hx
    · rw [← hT1 c e]; exact h
  refine ⟨fun b sb => ?_, ?_, fun f b hf fb tb ob => ?_, fun p hp => ?_⟩
  · have w := hI.1 b sb
    have e : b ≠ x := fun e => by rw [e] at w; omega
    have k := (k1.1 b (by rw [hT1 b e]; omega) e).1.trans (hT1 b e)
    exact ⟨by unfold FIN; rw [k]; exact w, Or.inl sb⟩
  · refine ⟨hij.1, fun f g c b hf hg hc hb oc ob e => hij.2 f g c b hf hg hc hb oc ob ?_⟩
    have lf := afl_lt hf
    have lg := afl_lt hg
    have nf : f ≠ 110 ∧ g ≠ 110 := by
      simp only [List.mem_cons, List.not_mem_nil, or_false] at hf hg
      omega
    unfold adN at e ⊢
    rw [sA_k nf.1, sA_k nf.2] at e
    exact e
  · have nf : f ≠ 110 := by
      simp only [List.mem_cons, List.not_mem_nil, or_false] at hf
      omega
    have n1 : ¬ FIN T1 b := fun z => by
      by_cases e : b = x
      · have z2 := z.2
        rw [e, hx1] at z2
        exact absurd z2 (by decide)
      · have z2 := z.1
        rw [hT1 b e] at z2
        omega
    have w := tz _ (frn f b hf fb n1 ob)
    unfold adN at w ⊢
    rw [sA_k nf]
    exact w
  · rw [show (sA 110 a x S2).2.1 110 a = (x : Int) from ra_eq] at hp
    have e9 : p = x := by omega
    subst e9
    unfold adN
    rw [sA_k (by omega), sA_k (by omega), h0, h1]
    exact ⟨tz tt z0, tz tt1 z1⟩
theorem PRQ.rk (q : PRQ T σ T2 σ2 a) (hw : WT T σ) (oa : OB T a 11) : RK7 σ σ2 a := by
  have na : (T a).1 ≠ 0 := by have := oa.1; omega
  refine ⟨q.1 103 a (by decide) na (fun w => absurd w.1 (by decide)), q.1 99 a (by decide) na (fun w => absurd w.1 (by decide)), fun rn e => ?_⟩
  have t := ob_of (wf_103 hw oa) e
  refine ⟨fun f f0 f1 => q.1 f rn (by omega) (by omega) (fun w => by omega), fun f hf => q.2.1 _ ?_⟩
  obtain ⟨-, fa, fc⟩ := rn_lt hf
  exact (afk_t hw fa (by rw [fc]; exact ⟨by omega, by rw [t]; rfl, by omega⟩)).1
theorem KB6.pair {C E M : Int → Nat} (h : KB6 S T σ a C E M) (oa : OB T a 11) (hw : WT T σ) (hw2 : WT T2 σ2) (q : PRQ T σ T2 σ2 a) (i : PRI S T T2 σ2 a) : KB6 (NW6 S T T2) T2 σ2 a C E M ∧ ∀ r, 0 ≤ r → r < 6 → CSM σ σ2 (C r) := by
  obtain ⟨q1, q2, q3, gt⟩ := q
  obtain ⟨i1, i2, i4, i3⟩ := i
  have oa2 : OB T2 a 11 := gt.ob oa
  have na : (T a).1 ≠ 0 := by have := oa.1; omega
  have fa : ∀ f : Nat, f < 200 → f ≠ 110 → σ2.2.1 f (a : Int) = σ.2.1 f a := fun f hf hn => q1 f a hf na (fun z => hn z.1)
  have ad : ∀ f : Nat, f < 200 → f ≠ 110 → adN σ2 f a = adN σ f a := fun f hf hn => by unfold adN; rw [fa f hf hn]
  have x1 := KEM.xs hw oa
  have o107 := (ad_ex (Q := fun x => (T x).1 = 32) (wf_107 hw oa)).2
  have o108 := (ad_ex (Q := fun x => (T x).1 = 34) (wf_108 hw oa)).2
  have o109 := (ad_ex (Q := fun x => (T x).1 = 38) (wf_109 hw oa)).2
  obtain ⟨⟨k1, k2, k3⟩, k4, k5, k6⟩ := h.1
  have oo : ∀ f b : Nat, f < 200 → f ≠ 110 → (T b).1 ≠ 0 → adN σ2 f b = adN σ f b := fun f b hf hn hb => by unfold adN; rw [q1 f b hf hb (fun z => hn z.1)]
  have tt : ∀ b, (T b).1 ≠ 0 → (T b).1 < 80 → T2 b = T b := fun b z1 z2 => gt b z1 z2
  refine ⟨⟨⟨⟨i2, ?_, ?_⟩, fun r r0 r6 => ?_, k5, k6⟩, ⟨i2, ?_, ?_, fun p hp => ?_⟩, ?_⟩, fun r r0 r6 => ?_⟩
  · unfold KST
    rw [ad 106 (by decide) (by decide), ad 107 (by decide) (by decide), ad 108 (by decide) (by decide), ad 109 (by decide) (by decide), ad 102 (by decide) (by decide), oo 17 (adN σ 107 a) (by decide) (by decide) (by omega), oo 23 (adN σ 108 a) (by decide) (by decide) (by omega), oo 72 (adN σ 109 a) (by decide) (by decide) (by omega)]
    exact ⟨i1 _ k2.1, i1 _ k2.2.1, i1 _ k2.2.2.1, i1 _ k2.2.2.2.1, i1 _ k2.2.2.2.2.1, i1 _ k2.2.2.2.2.2.1, i1 _ k2.2.2.2.2.2.2.1, i1 _ k2.2.2.2.2.2.2.2⟩
  · unfold SPX
    rw [ad 100 (by decide) (by decide), oo 34 (adN σ 100 a) (by decide) (by decide) (by have := x1.2.2.2.1.1; omega), q2 (adN σ 34 (adN σ 100 a)) (by rw [x1.1]; decide)]
    refine ⟨i1 _ k3.1, fun p p0 p1 => ?_, k3.2.2⟩
    have z := k3.2.1 p p0 p1
    exact ⟨z.1, i1 _ z.2.1, by rw [tt _ (by rw [z.2.2]; decide) (by rw [z.2.2]; decide)]; exact z.2.2⟩
  · have z := k4 r r0 r6
    rw [ad 99 (by decide) (by decide), ad 98 (by decide) (by decide), q2 (adN σ 99 a) (by rw [x1.2.2.1]; decide), q2 (adN σ 98 a) (by rw [x1.2.1]; decide)]
    exact ⟨⟨z.1.1, i1 _ z.1.2.1, by rw [tt _ (by rw [z.1.2.2]; decide) (by rw [z.1.2.2]; decide)]; exact z.1.2.2⟩, ⟨z.2.1, i1 _ z.2.2.1, by rw [tt _ (by rw [z.2.2.2]; decide) (by rw [z.2.2.2]; decide)]; exact z.2.2.2⟩⟩
  · intro j t j0 j6 e f b hf sb ob
    rw [q3] at e
    have e1 := tb_tag hw j0 j6 e
    rcases sb.2 with s9 | s9
    · have w := k1.1 b s9
      have tb := tt b (by omega) w.2
      rw [oo f b (by have := afl_lt hf; omega) (by simp only [List.mem_cons, List.not_mem_nil, or_false] at hf; omega) (by omega)]
      exact h.2.1.2.1 j t j0 j6 e f b hf s9 (by unfold OB at *; rw [tb] at ob; exact ob)
    · intro e9
      have n9 := i4 f b hf sb.1 s9 ob
      rw [← e9] at n9
      omega
  · rw [ad 102 (by decide) (by decide)]
    exact i1 _ h.2.1.2.2.1
  · have z := i3 p hp
    have op : OB T2 p 0 := by
      have w := (wf_110 hw2 oa2)
      rcases w with w | ⟨y, hy, ky⟩
      · omega
      · have e : p = y := by omega
        rw [e]
        exact ⟨by omega, by rw [ky]; rfl, by omega⟩
    have f0 := (ad_ex (Q := fun x => (T2 x).1 = 37) (wf_0 hw2 op)).2
    have f1 := (ad_ex (Q := fun x => (T2 x).1 = 57) (wf_1 hw2 op)).2
    exact ⟨⟨⟨by omega, by omega⟩, Or.inr z.1⟩, ⟨⟨by omega, by omega⟩, Or.inr z.2⟩⟩
  · rw [ad 103 (by decide) (by decide)]
    exact i1 _ h.2.2
  · have z := (k4 r r0 r6).1
    have o1 : OB T (C r) 1 := ob50 z.2.2
    refine ⟨fun f f0 f1 => q1 f (C r) (by omega) (by rw [z.2.2]; decide) (fun w => by omega), fun f hf => q2 _ ?_⟩
    have w := afk_t hw (f := f) (b := C r) (by simp only [List.mem_cons, List.not_mem_nil, or_false] at hf ⊢; omega) (by
      have c1 : cls f = 1 := by simp only [List.mem_cons, List.not_mem_nil, or_false] at hf; rcases hf with rfl | rfl | rfl | rfl | rfl | rfl <;> rfl
      rw [c1]; exact o1)
    exact w.1
theorem KB6.q {C E M : Int → Nat} (hK : KB6 S T σ a C E M) (ha : OB T a 11) (hw : WT T σ) (gt : GT T T2) (q : QFR S T σ σ2) (b : BSQ S T2 σ2 a) : KB6 S T2 σ2 a C E M ∧ ∀ r, 0 ≤ r → r < 6 → CSM σ σ2 (C r) := ⟨⟨hK.1.q ha hw gt q, b, by rw [q.ad (by decide) (by unfold QF; omega)]; exact hK.2.2⟩, fun r x y => CSM.q q (hK.co x y).1 (ob50 (hK.co x y).2)⟩
end PRQS
end
section
set_option maxHeartbeats 1000000 in
set_option maxRecDepth 20000 in
theorem bs6_new (d : Nat) {T : CT} {σ : MS} {a : Nat} {r p q s t n B : Int} {post : Option Value → CT → MS → Prop} (ha : OB T a 11) (hw : WT T σ) (h110 : σ.2.1 110 a < 0) (htr : TR σ a B) {S : Nat → Prop} (hI : INJ S T σ) (kk : ∀ (T2 : CT) (σ2 : MS), GT T T2 → WT T2 σ2 → 0 ≤ σ2.2.1 110 a → TR σ2 a B → SEP σ2 a → σ2.2.1 96 a = σ.2.1 96 a → PRQ T σ T2 σ2 a → PRI S T T2 σ2 a → Tn (d + 8) m_X11_beside 50 T2 σ2 [(0, .ref a), (1, .int (iI r)), (2, .int (iI p)), (3, .int (iI q)), (4, .int (iI s)), (5, .int (iI t)), (6, .int (iI n))] [] post) : Tn (d + 8) m_X11_beside 31 T σ [(0, .ref a), (1, .int (iI r)), (2, .int (iI p)), (3, .int (iI q)), (4, .int (iI s)), (5, .int (iI t)), (6, .int (iI n))] [] post := by
  refine tn_aload_n dX11_beside_31 rfl 0 rfl ?_
  refine tn_newO (ci := 0) (N := 5) tyX0 tyX0_ok dX11_beside_32 rfl lay_0 cl11_262 ist_0 ini_0 df_0 rfl (by decide) hfd_0 (fun x hx => ?_)
  have hax : a ≠ x := fun e => by have := ha.1; rw [e] at this; omega
  obtain ⟨y5, hy5, hk5, hl5⟩ := wf_99 hw ha
  obtain ⟨y4, hy4, hk4, hl4⟩ := wf_98 hw ha
  obtain ⟨rr, hrr, hkr⟩ := wf_103 hw ha
  have t5 : T y5 = (5, 6) := Prod.ext hk5 (by show (T y5).2 = 6; omega)
  have t4 : T y4 = (4, 6) := Prod.ext hk4 (by show (T y4).2 = 6; omega)
  obtain ⟨T1, S1, hT1, hx1, hf1, h91, e0, e1, hdf, wn, cd, eT, eS⟩ : ∃ (T1 : CT) (S1 : MS), (∀ c, c ≠ x → T1 c = T c) ∧ T1 x = (80, 0) ∧ (∀ n c, n < 200 → c ≠ x → S1.2.1 n (c : Int) = σ.2.1 n c) ∧ S1.2.1 900 = σ.2.1 900 ∧ S1.1 0 = σ.1 0 + (5 : Nat) ∧ S1.1 1 = σ.1 1 + 1 ∧ (∀ j, j < 200 → S1.2.1 j (x : Int) = dfF j) ∧ WTn T1 S1 ∧ (∀ K, CD K T → CD K T1) ∧ T1 = tT T x (80 + 0) 0 ∧ S1 = objS x (gh 5 σ) := by
    have e : (tT T x (80 + 0) 0 x).1 = 80 := by rw [tT_eq]
    have f1 : ∀ n c, n < 200 → c ≠ x → (objS x (gh 5 σ)).2.1 n (c : Int) = σ.2.1 n c := fun n c hn hc => by rw [objS_ne (by omega)]; rfl
    have f9 : (objS x (gh 5 σ)).2.1 900 = σ.2.1 900 := by rw [objS_hi (by omega)]; rfl
    exact ⟨_, _, fun c hc => tT_ne hc, tT_eq, f1, f9, rfl, rfl, fun j hj => objS_eq hj, hw.n.new hx (fun c hc => tT_ne hc) f1 (fun c hc => by rw [objS_hi (by omega)]; rfl) f9 (by rw [e]; omega) (by rw [e]; omega) (fun q => by unfold IA at q; rw [e] at q; omega), fun K h => h.new (fun c hc => tT_ne hc) hx (by rw [e]; omega), rfl, rfl⟩
  rw [← eT, ← eS]
  have a1 : T1 a = T a := hT1 a hax
  have oa1 : OB T1 a 11 := by unfold OB; rw [a1]; exact ha
  have n5 : y5 ≠ x := fun e => by rw [e] at hk5; omega
  have n4 : y4 ≠ x := fun e => by rw [e] at hk4; omega
  have nr : rr ≠ x := fun e => by rw [e] at hkr; omega
  refine tn_dup dX11_beside_35 rfl ?_
  refine tn_aload_n dX11_beside_36 rfl 0 rfl ?_
  refine tn_getR (ci := 11) (i := 4) (n := 99) (x := y5) dX11_beside_37 rfl lay_11 (by decide) fl11_19 oa1 rfl rfl ((hf1 99 a (by decide) hax).trans hy5) ?_
  refine tn_aload_n dX11_beside_40 rfl 0 rfl ?_
  refine tn_getR (ci := 11) (i := 3) (n := 98) (x := y4) dX11_beside_41 rfl lay_11 (by decide) fl11_15 oa1 rfl rfl ((hf1 98 a (by decide) hax).trans hy4) ?_
  refine tn_callI (M := m_X11_beside) (pc := 44) (ix := 264) (M' := m_X0_init) (As := [.ref y5, .ref y4]) (rest := [.ref x, .ref a]) dX11_beside_44 ok_X0_init rfl rfl im_X0_init ml11_264 np_X0_init rfl (Nat.le_of_ble_eq_true rfl) (Nat.le_of_ble_eq_true rfl) rfl (kj_X0_init_30 (S0 := fun b => S b ∨ (T b).1 = 0) (d + 5) (T := T1) (σ := S1) (a := x) (K := (hw.2.2.2.2.2).choose_spec.choose) (cs := y5) (mc := y4) hx1 wn (cd _ (fun c => ((hw.2.2.2.2.2).choose_spec.choose_spec.2.2.1 c).symm)) hdf (inj_new hI hT1 hx1 hf1) ((hT1 y5 n5).trans t5) ((hT1 y4 n4).trans t4)) (fun r2 T2 S2 g hp => ?_)
  obtain ⟨rfl, hr, w1, c1, k1, g0, g1, hij2, hfr2, n7, n41, tt, tt1, htt, htt1, htz, htz1⟩ := hp
  show Tn _ _ 47 T2 S2 [(0, .ref a), (1, .int (iI r)), (2, .int (iI p)), (3, .int (iI q)), (4, .int (iI s)), (5, .int (iI t)), (6, .int (iI n))] [.ref x, .ref a] _
  have ka := k1.1 a (by rw [a1]; have := ha.1; omega) hax
  have oa2 : OB T2 a 11 := by unfold OB; rw [ka.1]; exact oa1
  have kr := k1.1 rr (by rw [hT1 rr nr]; omega) nr
  refine tn_putV (ci := 11) (i := 15) (n := 110) (r := true) (v := (x : Int)) tyX11 tyX11_ok nmX11 dX11_beside_47 rfl lay_11 (by decide) fl11_258 rfl (tyX11_ok 15 (by decide)) (vl_ref rfl).symm rfl rfl oa2 rfl rfl ?_
  have gT : GT T T2 := fun c z1 z2 => by
    have e : c ≠ x := fun e => z1 (by rw [e]; exact hx)
    exact ((k1.1 c (by rw [hT1 c e]; exact z1) e).1).trans (hT1 c e)
  have v3 : ∀ m, m < 200 → m ≠ 110 → (sA 110 a x S2).2.1 m a = σ.2.1 m a := fun m h1 h2 => by rw [sA_k h2, ka.2.1 m h1, hf1 m a h1 hax]
  refine kk T2 (sA 110 a x S2) gT (WT.pair hw ha h110 hx hT1 hx1 hf1 h91 e0 e1 w1 hr k1 g0 g1 n41 (fun K9 h9 => ?_)) (by rw [show (sA 110 a x S2).2.1 110 a = (x : Int) from ra_eq]; omega) (TR.of (x := rr) ((v3 103 (by decide) (by decide)).trans hrr) ?_) (fun p9 q9 => ?_) (v3 96 (by decide) (by decide)) (PRQ.mk hx hT1 hf1 h91 eS k1) (pair_inj hI hx hT1 k1 hx1 hij2 hfr2 htt htt1 htz htz1)
  · intro c
    rw [c1 c, ← h9 c]
    exact (hw.2.2.2.2.2).choose_spec.choose_spec.2.2.1 c
  · rw [sA_k (by omega), kr.2.1 57 (by decide), hf1 57 rr (by decide) nr]; exact htr rr hrr
  · rw [show (sA 110 a x S2).2.1 110 a = (x : Int) from ra_eq] at q9
    have e9 : p9 = x := by omega
    rw [e9, sA_k (by omega), htt, v3 103 (by decide) (by decide), hrr]
    intro e8
    have e7 : tt = rr := by omega
    rw [e7, hT1 rr nr] at htz
    omega
end
