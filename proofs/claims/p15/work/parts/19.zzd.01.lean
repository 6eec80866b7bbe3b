section
set_option maxRecDepth 20000 in
set_option maxHeartbeats 4000000 in
theorem kj_X5_init_35 (d : Nat) {T : CT} {σ : MS} {a : Nat} {K : List Nat} (hraw : T a = (80 + 5, 0)) (hb : WTn T σ) (hcd : CD K T) (hdf : ∀ j, j < 200 → σ.2.1 j (a : Int) = dfF j) {S0 : Nat → Prop} (hij : INJT S0 T σ) : Tn (d + 2) m_X5_init 0 T σ [(0, .ref a)] [] (fun ro T2 σ2 => ro = none ∧ T2 a = (35, 0) ∧ WTn T2 σ2 ∧ (∃ K2 : List Nat, K2.length = K.length + 7 ∧ CD K2 T2) ∧ KPx a T σ T2 σ2 ∧ σ2.1 0 = σ.1 0 + (7892 : Nat) ∧ σ2.1 1 = σ.1 1 + (68 : Nat) ∧ INJT S0 T2 σ2 ∧ FRN T T2 σ2 ∧ NX 7 a T T2 ∧ NX 41 a T T2 ∧ ∃ (q : Nat) (L : List Nat), σ2.2.1 34 (a : Int) = (q : Int) ∧ T2 q = (4, 7) ∧ L.length = 7 ∧ DS L ∧ (∀ i : Nat, i < 7 → σ2.2.1 (1000 + q) (i : Int) = ((L.getD i 0 : Nat) : Int)) ∧ ∀ y ∈ L, (T2 y).1 = 31 ∧ (T y).1 = 0) := by
  have cx0 : CX a 5 K 0 0 T σ T σ := CX.begin hraw hb hcd
  have cj0 : CXJ S0 a 5 T T σ := CXJ.begin hraw (fun f9 h9 c9 => (hdf f9 (by have := afl_lt h9; omega)).trans ((by decide : ∀ f ∈ AFL, dfF f = -1) f9 h9)) hij
  have nx7 : NX 7 a T T := NX.begin (by decide)
  have nx41 : NX 41 a T T := NX.begin (by decide)
  have f33 : σ.2.1 33 a = -1 := (hdf 33 (by decide)).trans (by decide)
  have f34 : σ.2.1 34 a = -1 := (hdf 34 (by decide)).trans (by decide)
  have f35 : σ.2.1 35 a = -1 := (hdf 35 (by decide)).trans (by decide)
  have f36 : σ.2.1 36 a = -1 := (hdf 36 (by decide)).trans (by decide)
  have f37 : σ.2.1 37 a = -1 := (hdf 37 (by decide)).trans (by decide)
  have f38 : σ.2.1 38 a = 0 := (hdf 38 (by decide)).trans (by decide)
  have f39 : σ.2.1 39 a = -1 := (hdf 39 (by decide)).trans (by decide)
  have f40 : σ.2.1 40 a = -1 := (hdf 40 (by decide)).trans (by decide)
  have f41 : σ.2.1 41 a = -1 := (hdf 41 (by decide)).trans (by decide)
  have f42 : σ.2.1 42 a = 0 := (hdf 42 (by decide)).trans (by decide)
  have f43 : σ.2.1 43 a = 0 := (hdf 43 (by decide)).trans (by decide)
  have f44 : σ.2.1 44 a = 0 := (hdf 44 (by decide)).trans (by decide)
  have f45 : σ.2.1 45 a = 0 := (hdf 45 (by decide)).trans (by decide)
  have f46 : σ.2.1 46 a = 0 := (hdf 46 (by decide)).trans (by decide)
  have f47 : σ.2.1 47 a = 0 := (hdf 47 (by decide)).trans (by decide)
  have f48 : σ.2.1 48 a = -1 := (hdf 48 (by decide)).trans (by decide)
  have f49 : σ.2.1 49 a = -1 := (hdf 49 (by decide)).trans (by decide)
  have f50 : σ.2.1 50 a = 0 := (hdf 50 (by decide)).trans (by decide)
  have f51 : σ.2.1 51 a = 0 := (hdf 51 (by decide)).trans (by decide)
  refine tn_aload_n dX5_init_0 rfl 0 rfl ?_
  refine tn_objInit dX5_init_1 mlo5_3 oiI oiC (by omega) (Nat.le_of_ble_eq_true rfl) ?_
  refine tn_aload_n dX5_init_4 rfl 0 rfl ?_
  refine tn_newO (ci := 9) (N := 7) tyX9 tyX9_ok dX5_init_5 rfl lay_9 cl5_9 ist_9 ini_9 df_9 rfl (by decide) hfd_9 (fun x1 hx2 => ?_)
  have ne3 := cx0.ne hx2
  have ne3z := (cx0.fresh hx2).resolve_right (fun e => ne3 e.symm)
  have ne3d : ∀ j, j < 200 → (objS x1 (gh 7 σ)).2.1 j (x1 : Int) = dfF j := fun j hj => objS_eq hj
  have ne3j := CXJ.new (T2 := (tT T x1 (80 + 9) 0)) (σ2 := (objS x1 (gh 7 σ))) cj0 cx0.1 cx0.2.1 hx2 (by rw [tT_eq]; decide) (fun b9 e9 => tT_ne e9) (fun n9 c9 hn9 hc9 => by rw [objS_ne (by omega)]; rfl)
  obtain ⟨T4, σ5, eT6, eS7, cx8, f11, f12, f13, f14, f15, f16, f17, f18, f19, f20, f21, f22, f23, f24, f25, f26, f27, f28, f29, o9, nx30, nx31, cj10⟩ : ∃ (T4 : CT) (σ5 : MS), T4 = (tT T x1 (80 + 9) 0) ∧ σ5 = (objS x1 (gh 7 σ)) ∧ CX a 5 K 7 1 T σ T4 σ5 ∧ (σ5.2.1 33 a = -1) ∧ (σ5.2.1 34 a = -1) ∧ (σ5.2.1 35 a = -1) ∧ (σ5.2.1 36 a = -1) ∧ (σ5.2.1 37 a = -1) ∧ (σ5.2.1 38 a = 0) ∧ (σ5.2.1 39 a = -1) ∧ (σ5.2.1 40 a = -1) ∧ (σ5.2.1 41 a = -1) ∧ (σ5.2.1 42 a = 0) ∧ (σ5.2.1 43 a = 0) ∧ (σ5.2.1 44 a = 0) ∧ (σ5.2.1 45 a = 0) ∧ (σ5.2.1 46 a = 0) ∧ (σ5.2.1 47 a = 0) ∧ (σ5.2.1 48 a = -1) ∧ (σ5.2.1 49 a = -1) ∧ (σ5.2.1 50 a = 0) ∧ (σ5.2.1 51 a = 0) ∧ (T4 x1 = (89, 0)) ∧ NX 7 a T T4 ∧ NX 41 a T T4 ∧ CXJ S0 a 5 T T4 σ5 := ⟨_, _, rfl, rfl, (cx0.newO hx2 (by decide)), (by rw [objS_ne (by omega)]; exact f33), (by rw [objS_ne (by omega)]; exact f34), (by rw [objS_ne (by omega)]; exact f35), (by rw [objS_ne (by omega)]; exact f36), (by rw [objS_ne (by omega)]; exact f37), (by rw [objS_ne (by omega)]; exact f38), (by rw [objS_ne (by omega)]; exact f39), (by rw [objS_ne (by omega)]; exact f40), (by rw [objS_ne (by omega)]; exact f41), (by rw [objS_ne (by omega)]; exact f42), (by rw [objS_ne (by omega)]; exact f43), (by rw [objS_ne (by omega)]; exact f44), (by rw [objS_ne (by omega)]; exact f45), (by rw [objS_ne (by omega)]; exact f46), (by rw [objS_ne (by omega)]; exact f47), (by rw [objS_ne (by omega)]; exact f48), (by rw [objS_ne (by omega)]; exact f49), (by rw [objS_ne (by omega)]; exact f50), (by rw [objS_ne (by omega)]; exact f51), tT_eq, (nx7.mk9 (by decide)), (nx41.mk9 (by decide)), ne3j.1⟩
  rw [← eT6]
  rw [← eS7]
  rw [← eS7] at ne3d
  clear cx0 cj0 f33 f34 f35 f36 f37 f38 f39 f40 f41 f42 f43 f44 f45 f46 f47 f48 f49 f50 f51 nx7 nx41
  refine tn_dup dX5_init_8 rfl ?_
  refine tn_callIN (M := m_X5_init) (pc := 9) (ix := 11) (M' := m_X9_init) (As := []) (rest := [.ref x1, .ref a]) dX5_init_9 ok_X9_init rfl rfl im_X9_init nl5_11 np_X9_init rfl (Nat.le_of_ble_eq_true rfl) (Nat.le_of_ble_eq_true rfl) rfl (kj_X9_init_39 (d) (T := T4) (σ := σ5) (a := x1) (K := K)  o9 cx8.2.1 cx8.2.2.1 ne3d cj10.1 ) (fun r32 T33 σ34 gt35 hp => ?_)
  obtain ⟨rfl, hr36, w37, cd38, kp39, ga40, gb41, hr36i, hr36f, hr36n7, hr36n41⟩ := hp
  have ne3b : a ≠ x1 := ne3
  have kp39a := kp39.1 a (by rw [cx8.1]; decide) ne3b
  obtain ⟨T42, σ43, eT44, eS45, cx46, f49, f50, f51, f52, f53, f54, f55, f56, f57, f58, f59, f60, f61, f62, f63, f64, f65, f66, f67, o47, nx68, nx69, cj48⟩ : ∃ (T42 : CT) (σ43 : MS), T42 = T33 ∧ σ43 = σ34 ∧ CX a 5 K 3610 4 T σ T42 σ43 ∧ (σ43.2.1 33 a = -1) ∧ (σ43.2.1 34 a = -1) ∧ (σ43.2.1 35 a = -1) ∧ (σ43.2.1 36 a = -1) ∧ (σ43.2.1 37 a = -1) ∧ (σ43.2.1 38 a = 0) ∧ (σ43.2.1 39 a = -1) ∧ (σ43.2.1 40 a = -1) ∧ (σ43.2.1 41 a = -1) ∧ (σ43.2.1 42 a = 0) ∧ (σ43.2.1 43 a = 0) ∧ (σ43.2.1 44 a = 0) ∧ (σ43.2.1 45 a = 0) ∧ (σ43.2.1 46 a = 0) ∧ (σ43.2.1 47 a = 0) ∧ (σ43.2.1 48 a = -1) ∧ (σ43.2.1 49 a = -1) ∧ (σ43.2.1 50 a = 0) ∧ (σ43.2.1 51 a = 0) ∧ (T42 x1 = (39, 0)) ∧ NX 7 a T T42 ∧ NX 41 a T T42 ∧ CXJ S0 a 5 T T42 σ43 := ⟨_, _, rfl, rfl, (cx8.call ne3b w37 cd38 kp39 ga40 gb41 ne3z), ((kp39a.2.1 33 (by decide)).trans f11), ((kp39a.2.1 34 (by decide)).trans f12), ((kp39a.2.1 35 (by decide)).trans f13), ((kp39a.2.1 36 (by decide)).trans f14), ((kp39a.2.1 37 (by decide)).trans f15), ((kp39a.2.1 38 (by decide)).trans f16), ((kp39a.2.1 39 (by decide)).trans f17), ((kp39a.2.1 40 (by decide)).trans f18), ((kp39a.2.1 41 (by decide)).trans f19), ((kp39a.2.1 42 (by decide)).trans f20), ((kp39a.2.1 43 (by decide)).trans f21), ((kp39a.2.1 44 (by decide)).trans f22), ((kp39a.2.1 45 (by decide)).trans f23), ((kp39a.2.1 46 (by decide)).trans f24), ((kp39a.2.1 47 (by decide)).trans f25), ((kp39a.2.1 48 (by decide)).trans f26), ((kp39a.2.1 49 (by decide)).trans f27), ((kp39a.2.1 50 (by decide)).trans f28), ((kp39a.2.1 51 (by decide)).trans f29), hr36, (nx30.call kp39 hr36 (by decide) hr36n7), (nx31.call kp39 hr36 (by decide) hr36n41), (CXJ.call cj10 cx8.1 cx8.2.1 cx8.2.2.2.1 ne3b kp39 (by rw [o9]; decide) hr36i hr36f)⟩
  rw [← eT44]
  rw [← eS45]
  show Tn _ _ 12 T42 σ43 [(0, .ref a)] [.ref x1, .ref a] _
  clear cx8 cj10 f11 f12 f13 f14 f15 f16 f17 f18 f19 f20 f21 f22 f23 f24 f25 f26 f27 f28 f29 nx30 nx31 o9
  refine tn_putFr (ci := 5) (i := 0) (n := 33) (r := true) (v := (x1 : Int)) tyX5 tyX5_ok nmX5 dX5_init_12 rfl lay_5 (by decide) fl5_12 rfl rfl rfl (tyX5_ok 0 (by decide)) (vl_ref rfl).symm rfl rfl (cx46.r (by decide)) rfl rfl ?_
  obtain ⟨σ70, eS72, cx73, f75, f76, f77, f78, f79, f80, f81, f82, f83, f84, f85, f86, f87, f88, f89, f90, f91, f92, f93, cj74⟩ : ∃ (σ70 : MS), σ70 = (sA 33 a ((x1 : Int)) σ43) ∧ CX a 5 K 3610 4 T σ T42 σ70 ∧ (σ70.2.1 33 a = (x1 : Int)) ∧ (σ70.2.1 34 a = -1) ∧ (σ70.2.1 35 a = -1) ∧ (σ70.2.1 36 a = -1) ∧ (σ70.2.1 37 a = -1) ∧ (σ70.2.1 38 a = 0) ∧ (σ70.2.1 39 a = -1) ∧ (σ70.2.1 40 a = -1) ∧ (σ70.2.1 41 a = -1) ∧ (σ70.2.1 42 a = 0) ∧ (σ70.2.1 43 a = 0) ∧ (σ70.2.1 44 a = 0) ∧ (σ70.2.1 45 a = 0) ∧ (σ70.2.1 46 a = 0) ∧ (σ70.2.1 47 a = 0) ∧ (σ70.2.1 48 a = -1) ∧ (σ70.2.1 49 a = -1) ∧ (σ70.2.1 50 a = 0) ∧ (σ70.2.1 51 a = 0) ∧ CXJ S0 a 5 T T42 σ70 := ⟨_, rfl, (cx46.put (by decide)), ra_eq, (rc_o (by decide) f50), (rc_o (by decide) f51), (rc_o (by decide) f52), (rc_o (by decide) f53), (rc_o (by decide) f54), (rc_o (by decide) f55), (rc_o (by decide) f56), (rc_o (by decide) f57), (rc_o (by decide) f58), (rc_o (by decide) f59), (rc_o (by decide) f60), (rc_o (by decide) f61), (rc_o (by decide) f62), (rc_o (by decide) f63), (rc_o (by decide) f64), (rc_o (by decide) f65), (rc_o (by decide) f66), (rc_o (by decide) f67), (CXJ.put cj48 cx46.1 cx46.2.1 (by decide))⟩
  rw [← eS72]
  clear cx46 cj48 f49 f50 f51 f52 f53 f54 f55 f56 f57 f58 f59 f60 f61 f62 f63 f64 f65 f66 f67
  refine tn_aload_n dX5_init_15 rfl 0 rfl ?_
  refine tn_bipush dX5_init_16 (by decide) ?_
  refine tn_anQ (N := 7) (k := 94) (by decide) dX5_init_18 cl5_18 rfl (by decide) (fun x94 hx95 => ?_)
  have ne96 := cx73.ne hx95
  have ne96z := (cx73.fresh hx95).resolve_right (fun e => ne96 e.symm)
  have ne96j := CXJ.new (T2 := (tT T42 x94 94 7)) (σ2 := (rowS (1000 + x94) (fun _ => -1) (gh 7 σ70))) cj74 cx73.1 cx73.2.1 hx95 (by rw [tT_eq]; decide) (fun b9 e9 => tT_ne e9) (fun n9 c9 hn9 hc9 => by rw [rowS_ne (by omega)]; rfl)
  obtain ⟨T97, σ98, eT99, eS100, cx101, f106, f107, f108, f109, f110, f111, f112, f113, f114, f115, f116, f117, f118, f119, f120, f121, f122, f123, f124, o102, o103, nx125, nx126, cj104, un105⟩ : ∃ (T97 : CT) (σ98 : MS), T97 = (tT T42 x94 94 7) ∧ σ98 = (rowS (1000 + x94) (fun _ => -1) (gh 7 σ70)) ∧ CX a 5 K 3617 5 T σ T97 σ98 ∧ (σ98.2.1 33 a = (x1 : Int)) ∧ (σ98.2.1 34 a = -1) ∧ (σ98.2.1 35 a = -1) ∧ (σ98.2.1 36 a = -1) ∧ (σ98.2.1 37 a = -1) ∧ (σ98.2.1 38 a = 0) ∧ (σ98.2.1 39 a = -1) ∧ (σ98.2.1 40 a = -1) ∧ (σ98.2.1 41 a = -1) ∧ (σ98.2.1 42 a = 0) ∧ (σ98.2.1 43 a = 0) ∧ (σ98.2.1 44 a = 0) ∧ (σ98.2.1 45 a = 0) ∧ (σ98.2.1 46 a = 0) ∧ (σ98.2.1 47 a = 0) ∧ (σ98.2.1 48 a = -1) ∧ (σ98.2.1 49 a = -1) ∧ (σ98.2.1 50 a = 0) ∧ (σ98.2.1 51 a = 0) ∧ (T97 x1 = (39, 0)) ∧ (T97 x94 = (94, 7)) ∧ NX 7 a T T97 ∧ NX 41 a T T97 ∧ CXJ S0 a 5 T T97 σ98 ∧ UNF a 5 x94 T97 σ98 := ⟨_, _, rfl, rfl, (cx73.newQ hx95 (by decide)), (by rw [rowS_ne (by omega)]; exact f75), (by rw [rowS_ne (by omega)]; exact f76), (by rw [rowS_ne (by omega)]; exact f77), (by rw [rowS_ne (by omega)]; exact f78), (by rw [rowS_ne (by omega)]; exact f79), (by rw [rowS_ne (by omega)]; exact f80), (by rw [rowS_ne (by omega)]; exact f81), (by rw [rowS_ne (by omega)]; exact f82), (by rw [rowS_ne (by omega)]; exact f83), (by rw [rowS_ne (by omega)]; exact f84), (by rw [rowS_ne (by omega)]; exact f85), (by rw [rowS_ne (by omega)]; exact f86), (by rw [rowS_ne (by omega)]; exact f87), (by rw [rowS_ne (by omega)]; exact f88), (by rw [rowS_ne (by omega)]; exact f89), (by rw [rowS_ne (by omega)]; exact f90), (by rw [rowS_ne (by omega)]; exact f91), (by rw [rowS_ne (by omega)]; exact f92), (by rw [rowS_ne (by omega)]; exact f93), (tk_keep o47 (by decide) hx95), tT_eq, (nx68.mk9 (by decide)), (nx69.mk9 (by decide)), ne96j.1, ne96j.2⟩
  rw [← eT99]
  rw [← eS100]
  clear cx73 cj74 f75 f76 f77 f78 f79 f80 f81 f82 f83 f84 f85 f86 f87 f88 f89 f90 f91 f92 f93 nx68 nx69 o47
  refine tn_putFr (ci := 5) (i := 1) (n := 34) (r := true) (v := (x94 : Int)) tyX5 tyX5_ok nmX5 dX5_init_21 rfl lay_5 (by decide) fl5_20 rfl rfl rfl (tyX5_ok 1 (by decide)) (vl_ref rfl).symm rfl rfl (cx101.r (by decide)) rfl rfl ?_
  obtain ⟨σ127, eS129, cx130, f132, f133, f134, f135, f136, f137, f138, f139, f140, f141, f142, f143, f144, f145, f146, f147, f148, f149, f150, cj131⟩ : ∃ (σ127 : MS), σ127 = (sA 34 a ((x94 : Int)) σ98) ∧ CX a 5 K 3617 5 T σ T97 σ127 ∧ (σ127.2.1 33 a = (x1 : Int)) ∧ (σ127.2.1 34 a = (x94 : Int)) ∧ (σ127.2.1 35 a = -1) ∧ (σ127.2.1 36 a = -1) ∧ (σ127.2.1 37 a = -1) ∧ (σ127.2.1 38 a = 0) ∧ (σ127.2.1 39 a = -1) ∧ (σ127.2.1 40 a = -1) ∧ (σ127.2.1 41 a = -1) ∧ (σ127.2.1 42 a = 0) ∧ (σ127.2.1 43 a = 0) ∧ (σ127.2.1 44 a = 0) ∧ (σ127.2.1 45 a = 0) ∧ (σ127.2.1 46 a = 0) ∧ (σ127.2.1 47 a = 0) ∧ (σ127.2.1 48 a = -1) ∧ (σ127.2.1 49 a = -1) ∧ (σ127.2.1 50 a = 0) ∧ (σ127.2.1 51 a = 0) ∧ CXJ S0 a 5 T T97 σ127 := ⟨_, rfl, (cx101.put (by decide)), (rc_o (by decide) f106), ra_eq, (rc_o (by decide) f108), (rc_o (by decide) f109), (rc_o (by decide) f110), (rc_o (by decide) f111), (rc_o (by decide) f112), (rc_o (by decide) f113), (rc_o (by decide) f114), (rc_o (by decide) f115), (rc_o (by decide) f116), (rc_o (by decide) f117), (rc_o (by decide) f118), (rc_o (by decide) f119), (rc_o (by decide) f120), (rc_o (by decide) f121), (rc_o (by decide) f122), (rc_o (by decide) f123), (rc_o (by decide) f124), (CXJ.put cj104 cx101.1 cx101.2.1 (by decide))⟩
  rw [← eS129]
  clear cx101 cj104 f106 f107 f108 f109 f110 f111 f112 f113 f114 f115 f116 f117 f118 f119 f120 f121 f122 f123 f124
  refine tn_aload_n dX5_init_24 rfl 0 rfl ?_
  refine tn_sipush dX5_init_25 (by decide) ?_
  refine tn_newI (N := 256) (k := 16) dX5_init_28 arC_int (by decide) rfl (by decide) (fun x151 hx152 => ?_)
  have ne153 := cx130.ne hx152
  have ne153z := (cx130.fresh hx152).resolve_right (fun e => ne153 e.symm)
  have ne153_x94 : x94 ≠ x151 := fun e => by rw [← e, o103] at hx152; exact absurd hx152 (by decide)
  have ne153j := CXJ.new (T2 := (tT T97 x151 16 256)) (σ2 := (rowS (1000 + x151) (fun _ => 0) (gh 256 σ127))) cj131 cx130.1 cx130.2.1 hx152 (by rw [tT_eq]; decide) (fun b9 e9 => tT_ne e9) (fun n9 c9 hn9 hc9 => by rw [rowS_ne (by omega)]; rfl)
  obtain ⟨T154, σ155, eT156, eS157, cx158, f164, f165, f166, f167, f168, f169, f170, f171, f172, f173, f174, f175, f176, f177, f178, f179, f180, f181, f182, o159, o160, o161, nx183, nx184, cj162, un163⟩ : ∃ (T154 : CT) (σ155 : MS), T154 = (tT T97 x151 16 256) ∧ σ155 = (rowS (1000 + x151) (fun _ => 0) (gh 256 σ127)) ∧ CX a 5 K 3873 6 T σ T154 σ155 ∧ (σ155.2.1 33 a = (x1 : Int)) ∧ (σ155.2.1 34 a = (x94 : Int)) ∧ (σ155.2.1 35 a = -1) ∧ (σ155.2.1 36 a = -1) ∧ (σ155.2.1 37 a = -1) ∧ (σ155.2.1 38 a = 0) ∧ (σ155.2.1 39 a = -1) ∧ (σ155.2.1 40 a = -1) ∧ (σ155.2.1 41 a = -1) ∧ (σ155.2.1 42 a = 0) ∧ (σ155.2.1 43 a = 0) ∧ (σ155.2.1 44 a = 0) ∧ (σ155.2.1 45 a = 0) ∧ (σ155.2.1 46 a = 0) ∧ (σ155.2.1 47 a = 0) ∧ (σ155.2.1 48 a = -1) ∧ (σ155.2.1 49 a = -1) ∧ (σ155.2.1 50 a = 0) ∧ (σ155.2.1 51 a = 0) ∧ (T154 x1 = (39, 0)) ∧ (T154 x94 = (94, 7)) ∧ (T154 x151 = (16, 256)) ∧ NX 7 a T T154 ∧ NX 41 a T T154 ∧ CXJ S0 a 5 T T154 σ155 ∧ UNF a 5 x151 T154 σ155 := ⟨_, _, rfl, rfl, (cx130.newI hx152 (by decide)), (by rw [rowS_ne (by omega)]; exact f132), (by rw [rowS_ne (by omega)]; exact f133), (by rw [rowS_ne (by omega)]; exact f134), (by rw [rowS_ne (by omega)]; exact f135), (by rw [rowS_ne (by omega)]; exact f136), (by rw [rowS_ne (by omega)]; exact f137), (by rw [rowS_ne (by omega)]; exact f138), (by rw [rowS_ne (by omega)]; exact f139), (by rw [rowS_ne (by omega)]; exact f140), (by rw [rowS_ne (by omega)]; exact f141), (by rw [rowS_ne (by omega)]; exact f142), (by rw [rowS_ne (by omega)]; exact f143), (by rw [rowS_ne (by omega)]; exact f144), (by rw [rowS_ne (by omega)]; exact f145), (by rw [rowS_ne (by omega)]; exact f146), (by rw [rowS_ne (by omega)]; exact f147), (by rw [rowS_ne (by omega)]; exact f148), (by rw [rowS_ne (by omega)]; exact f149), (by rw [rowS_ne (by omega)]; exact f150), (tk_keep o102 (by decide) hx152), (tk_keep o103 (by decide) hx152), tT_eq, (nx125.mk9 (by decide)), (nx126.mk9 (by decide)), ne153j.1, ne153j.2⟩
  rw [← eT156]
  rw [← eS157]
  clear cx130 cj131 f132 f133 f134 f135 f136 f137 f138 f139 f140 f141 f142 f143 f144 f145 f146 f147 f148 f149 f150 nx125 nx126 o102 o103
  refine tn_putFr (ci := 5) (i := 3) (n := 36) (r := true) (v := (x151 : Int)) tyX5 tyX5_ok nmX5 dX5_init_30 rfl lay_5 (by decide) fl5_24 rfl rfl rfl (tyX5_ok 3 (by decide)) (vl_ref rfl).symm rfl rfl (cx158.r (by decide)) rfl rfl ?_
  obtain ⟨σ185, eS187, cx188, f190, f191, f192, f193, f194, f195, f196, f197, f198, f199, f200, f201, f202, f203, f204, f205, f206, f207, f208, cj189⟩ : ∃ (σ185 : MS), σ185 = (sA 36 a ((x151 : Int)) σ155) ∧ CX a 5 K 3873 6 T σ T154 σ185 ∧ (σ185.2.1 33 a = (x1 : Int)) ∧ (σ185.2.1 34 a = (x94 : Int)) ∧ (σ185.2.1 35 a = -1) ∧ (σ185.2.1 36 a = (x151 : Int)) ∧ (σ185.2.1 37 a = -1) ∧ (σ185.2.1 38 a = 0) ∧ (σ185.2.1 39 a = -1) ∧ (σ185.2.1 40 a = -1) ∧ (σ185.2.1 41 a = -1) ∧ (σ185.2.1 42 a = 0) ∧ (σ185.2.1 43 a = 0) ∧ (σ185.2.1 44 a = 0) ∧ (σ185.2.1 45 a = 0) ∧ (σ185.2.1 46 a = 0) ∧ (σ185.2.1 47 a = 0) ∧ (σ185.2.1 48 a = -1) ∧ (σ185.2.1 49 a = -1) ∧ (σ185.2.1 50 a = 0) ∧ (σ185.2.1 51 a = 0) ∧ CXJ S0 a 5 T T154 σ185 := ⟨_, rfl, (cx158.put (by decide)), (rc_o (by decide) f164), (rc_o (by decide) f165), (rc_o (by decide) f166), ra_eq, (rc_o (by decide) f168), (rc_o (by decide) f169), (rc_o (by decide) f170), (rc_o (by decide) f171), (rc_o (by decide) f172), (rc_o (by decide) f173), (rc_o (by decide) f174), (rc_o (by decide) f175), (rc_o (by decide) f176), (rc_o (by decide) f177), (rc_o (by decide) f178), (rc_o (by decide) f179), (rc_o (by decide) f180), (rc_o (by decide) f181), (rc_o (by decide) f182), (CXJ.putA cj162 cx158.1 (by decide) rfl un163 (by rw [o161]; decide) ne153z)⟩
  rw [← eS187]
  clear cx158 cj162 f164 f165 f166 f167 f168 f169 f170 f171 f172 f173 f174 f175 f176 f177 f178 f179 f180 f181 f182
  refine tn_aload_n dX5_init_33 rfl 0 rfl ?_
  refine tn_sipush dX5_init_34 (by decide) ?_
  refine tn_newI (N := 256) (k := 17) dX5_init_37 arC_int (by decide) rfl (by decide) (fun x209 hx210 => ?_)
  have ne211 := cx188.ne hx210
  have ne211z := (cx188.fresh hx210).resolve_right (fun e => ne211 e.symm)
  have ne211_x94 : x94 ≠ x209 := fun e => by rw [← e, o160] at hx210; exact absurd hx210 (by decide)
  have ne211j := CXJ.new (T2 := (tT T154 x209 17 256)) (σ2 := (rowS (1000 + x209) (fun _ => 0) (gh 256 σ185))) cj189 cx188.1 cx188.2.1 hx210 (by rw [tT_eq]; decide) (fun b9 e9 => tT_ne e9) (fun n9 c9 hn9 hc9 => by rw [rowS_ne (by omega)]; rfl)
  obtain ⟨T212, σ213, eT214, eS215, cx216, f223, f224, f225, f226, f227, f228, f229, f230, f231, f232, f233, f234, f235, f236, f237, f238, f239, f240, f241, o217, o218, o219, o220, nx242, nx243, cj221, un222⟩ : ∃ (T212 : CT) (σ213 : MS), T212 = (tT T154 x209 17 256) ∧ σ213 = (rowS (1000 + x209) (fun _ => 0) (gh 256 σ185)) ∧ CX a 5 K 4129 7 T σ T212 σ213 ∧ (σ213.2.1 33 a = (x1 : Int)) ∧ (σ213.2.1 34 a = (x94 : Int)) ∧ (σ213.2.1 35 a = -1) ∧ (σ213.2.1 36 a = (x151 : Int)) ∧ (σ213.2.1 37 a = -1) ∧ (σ213.2.1 38 a = 0) ∧ (σ213.2.1 39 a = -1) ∧ (σ213.2.1 40 a = -1) ∧ (σ213.2.1 41 a = -1) ∧ (σ213.2.1 42 a = 0) ∧ (σ213.2.1 43 a = 0) ∧ (σ213.2.1 44 a = 0) ∧ (σ213.2.1 45 a = 0) ∧ (σ213.2.1 46 a = 0) ∧ (σ213.2.1 47 a = 0) ∧ (σ213.2.1 48 a = -1) ∧ (σ213.2.1 49 a = -1) ∧ (σ213.2.1 50 a = 0) ∧ (σ213.2.1 51 a = 0) ∧ (T212 x1 = (39, 0)) ∧ (T212 x94 = (94, 7)) ∧ (T212 x151 = (16, 256)) ∧ (T212 x209 = (17, 256)) ∧ NX 7 a T T212 ∧ NX 41 a T T212 ∧ CXJ S0 a 5 T T212 σ213 ∧ UNF a 5 x209 T212 σ213 := ⟨_, _, rfl, rfl, (cx188.newI hx210 (by decide)), (by rw [rowS_ne (by omega)]; exact f190), (by rw [rowS_ne (by omega)]; exact f191), (by rw [rowS_ne (by omega)]; exact f192), (by rw [rowS_ne (by omega)]; exact f193), (by rw [rowS_ne (by omega)]; exact f194), (by rw [rowS_ne (by omega)]; exact f195), (by rw [rowS_ne (by omega)]; exact f196), (by rw [rowS_ne (by omega)]; exact f197), (by rw [rowS_ne (by omega)]; exact f198), (by rw [rowS_ne (by omega)]; exact f199), (by rw [rowS_ne (by omega)]; exact f200), (by rw [rowS_ne (by omega)]; exact f201), (by rw [rowS_ne (by omega)]; exact f202), (by rw [rowS_ne (by omega)]; exact f203), (by rw [rowS_ne (by omega)]; exact f204), (by rw [rowS_ne (by omega)]; exact f205), (by rw [rowS_ne (by omega)]; exact f206), (by rw [rowS_ne (by omega)]; exact f207), (by rw [rowS_ne (by omega)]; exact f208), (tk_keep o159 (by decide) hx210), (tk_keep o160 (by decide) hx210), (tk_keep o161 (by decide) hx210), tT_eq, (nx183.mk9 (by decide)), (nx184.mk9 (by decide)), ne211j.1, ne211j.2⟩
  rw [← eT214]
  rw [← eS215]
  clear cx188 cj189 f190 f191 f192 f193 f194 f195 f196 f197 f198 f199 f200 f201 f202 f203 f204 f205 f206 f207 f208 nx183 nx184 o159 o160 o161
  refine tn_putFr (ci := 5) (i := 4) (n := 37) (r := true) (v := (x209 : Int)) tyX5 tyX5_ok nmX5 dX5_init_39 rfl lay_5 (by decide) fl5_28 rfl rfl rfl (tyX5_ok 4 (by decide)) (vl_ref rfl).symm rfl rfl (cx216.r (by decide)) rfl rfl ?_
  obtain ⟨σ244, eS246, cx247, f249, f250, f251, f252, f253, f254, f255, f256, f257, f258, f259, f260, f261, f262, f263, f264, f265, f266, f267, cj248⟩ : ∃ (σ244 : MS), σ244 = (sA 37 a ((x209 : Int)) σ213) ∧ CX a 5 K 4129 7 T σ T212 σ244 ∧ (σ244.2.1 33 a = (x1 : Int)) ∧ (σ244.2.1 34 a = (x94 : Int)) ∧ (σ244.2.1 35 a = -1) ∧ (σ244.2.1 36 a = (x151 : Int)) ∧ (σ244.2.1 37 a = (x209 : Int)) ∧ (σ244.2.1 38 a = 0) ∧ (σ244.2.1 39 a = -1) ∧ (σ244.2.1 40 a = -1) ∧ (σ244.2.1 41 a = -1) ∧ (σ244.2.1 42 a = 0) ∧ (σ244.2.1 43 a = 0) ∧ (σ244.2.1 44 a = 0) ∧ (σ244.2.1 45 a = 0) ∧ (σ244.2.1 46 a = 0) ∧ (σ244.2.1 47 a = 0) ∧ (σ244.2.1 48 a = -1) ∧ (σ244.2.1 49 a = -1) ∧ (σ244.2.1 50 a = 0) ∧ (σ244.2.1 51 a = 0) ∧ CXJ S0 a 5 T T212 σ244 := ⟨_, rfl, (cx216.put (by decide)), (rc_o (by decide) f223), (rc_o (by decide) f224), (rc_o (by decide) f225), (rc_o (by decide) f226), ra_eq, (rc_o (by decide) f228), (rc_o (by decide) f229), (rc_o (by decide) f230), (rc_o (by decide) f231), (rc_o (by decide) f232), (rc_o (by decide) f233), (rc_o (by decide) f234), (rc_o (by decide) f235), (rc_o (by decide) f236), (rc_o (by decide) f237), (rc_o (by decide) f238), (rc_o (by decide) f239), (rc_o (by decide) f240), (rc_o (by decide) f241), (CXJ.putA cj221 cx216.1 (by decide) rfl un222 (by rw [o220]; decide) ne211z)⟩
  rw [← eS246]
  clear cx216 cj221 f223 f224 f225 f226 f227 f228 f229 f230 f231 f232 f233 f234 f235 f236 f237 f238 f239 f240 f241
  refine tn_aload_n dX5_init_42 rfl 0 rfl ?_
  refine tn_sipush dX5_init_43 (by decide) ?_
  refine tn_newI (N := 256) (k := 18) dX5_init_46 arC_int (by decide) rfl (by decide) (fun x268 hx269 => ?_)
  have ne270 := cx247.ne hx269
  have ne270z := (cx247.fresh hx269).resolve_right (fun e => ne270 e.symm)
  have ne270_x94 : x94 ≠ x268 := fun e => by rw [← e, o218] at hx269; exact absurd hx269 (by decide)
  have ne270j := CXJ.new (T2 := (tT T212 x268 18 256)) (σ2 := (rowS (1000 + x268) (fun _ => 0) (gh 256 σ244))) cj248 cx247.1 cx247.2.1 hx269 (by rw [tT_eq]; decide) (fun b9 e9 => tT_ne e9) (fun n9 c9 hn9 hc9 => by rw [rowS_ne (by omega)]; rfl)
  obtain ⟨T271, σ272, eT273, eS274, cx275, f283, f284, f285, f286, f287, f288, f289, f290, f291, f292, f293, f294, f295, f296, f297, f298, f299, f300, f301, o276, o277, o278, o279, o280, nx302, nx303, cj281, un282⟩ : ∃ (T271 : CT) (σ272 : MS), T271 = (tT T212 x268 18 256) ∧ σ272 = (rowS (1000 + x268) (fun _ => 0) (gh 256 σ244)) ∧ CX a 5 K 4385 8 T σ T271 σ272 ∧ (σ272.2.1 33 a = (x1 : Int)) ∧ (σ272.2.1 34 a = (x94 : Int)) ∧ (σ272.2.1 35 a = -1) ∧ (σ272.2.1 36 a = (x151 : Int)) ∧ (σ272.2.1 37 a = (x209 : Int)) ∧ (σ272.2.1 38 a = 0) ∧ (σ272.2.1 39 a = -1) ∧ (σ272.2.1 40 a = -1) ∧ (σ272.2.1 41 a = -1) ∧ (σ272.2.1 42 a = 0) ∧ (σ272.2.1 43 a = 0) ∧ (σ272.2.1 44 a = 0) ∧ (σ272.2.1 45 a = 0) ∧ (σ272.2.1 46 a = 0) ∧ (σ272.2.1 47 a = 0) ∧ (σ272.2.1 48 a = -1) ∧ (σ272.2.1 49 a = -1) ∧ (σ272.2.1 50 a = 0) ∧ (σ272.2.1 51 a = 0) ∧ (T271 x1 = (39, 0)) ∧ (T271 x94 = (94, 7)) ∧ (T271 x151 = (16, 256)) ∧ (T271 x209 = (17, 256)) ∧ (T271 x268 = (18, 256)) ∧ NX 7 a T T271 ∧ NX 41 a T T271 ∧ CXJ S0 a 5 T T271 σ272 ∧ UNF a 5 x268 T271 σ272 := ⟨_, _, rfl, rfl, (cx247.newI hx269 (by decide)), (by rw [rowS_ne (by omega)]; exact f249), (by rw [rowS_ne (by omega)]; exact f250), (by rw [rowS_ne (by omega)]; exact f251), (by rw [rowS_ne (by omega)]; exact f252), (by rw [rowS_ne (by omega)]; exact f253), (by rw [rowS_ne (by omega)]; exact f254), (by rw [rowS_ne (by omega)]; exact f255), (by rw [rowS_ne (by omega)]; exact f256), (by rw [rowS_ne (by omega)]; exact f257), (by rw [rowS_ne (by omega)]; exact f258), (by rw [rowS_ne (by omega)]; exact f259), (by rw [rowS_ne (by omega)]; exact f260), (by rw [rowS_ne (by omega)]; exact f261), (by rw [rowS_ne (by omega)]; exact f262), (by rw [rowS_ne (by omega)]; exact f263), (by rw [rowS_ne (by omega)]; exact f264), (by rw [rowS_ne (by omega)]; exact f265), (by rw [rowS_ne (by omega)]; exact f266), (by rw [rowS_ne (by omega)]; exact f267), (tk_keep o217 (by decide) hx269), (tk_keep o218 (by decide) hx269), (tk_keep o219 (by decide) hx269), (tk_keep o220 (by decide) hx269), tT_eq, (nx242.mk9 (by decide)), (nx243.mk9 (by decide)), ne270j.1, ne270j.2⟩
  rw [← eT273]
  rw [← eS274]
  clear cx247 cj248 f249 f250 f251 f252 f253 f254 f255 f256 f257 f258 f259 f260 f261 f262 f263 f264 f265 f266 f267 nx242 nx243 o217 o218 o219 o220
  refine tn_putFr (ci := 5) (i := 6) (n := 39) (r := true) (v := (x268 : Int)) tyX5 tyX5_ok nmX5 dX5_init_48 rfl lay_5 (by decide) fl5_31 rfl rfl rfl (tyX5_ok 6 (by decide)) (vl_ref rfl).symm rfl rfl (cx275.r (by decide)) rfl rfl ?_
  obtain ⟨σ304, eS306, cx307, f309, f310, f311, f312, f313, f314, f315, f316, f317, f318, f319, f320, f321, f322, f323, f324, f325, f326, f327, cj308⟩ : ∃ (σ304 : MS), σ304 = (sA 39 a ((x268 : Int)) σ272) ∧ CX a 5 K 4385 8 T σ T271 σ304 ∧ (σ304.2.1 33 a = (x1 : Int)) ∧ (σ304.2.1 34 a = (x94 : Int)) ∧ (σ304.2.1 35 a = -1) ∧ (σ304.2.1 36 a = (x151 : Int)) ∧ (σ304.2.1 37 a = (x209 : Int)) ∧ (σ304.2.1 38 a = 0) ∧ (σ304.2.1 39 a = (x268 : Int)) ∧ (σ304.2.1 40 a = -1) ∧ (σ304.2.1 41 a = -1) ∧ (σ304.2.1 42 a = 0) ∧ (σ304.2.1 43 a = 0) ∧ (σ304.2.1 44 a = 0) ∧ (σ304.2.1 45 a = 0) ∧ (σ304.2.1 46 a = 0) ∧ (σ304.2.1 47 a = 0) ∧ (σ304.2.1 48 a = -1) ∧ (σ304.2.1 49 a = -1) ∧ (σ304.2.1 50 a = 0) ∧ (σ304.2.1 51 a = 0) ∧ CXJ S0 a 5 T T271 σ304 := ⟨_, rfl, (cx275.put (by decide)), (rc_o (by decide) f283), (rc_o (by decide) f284), (rc_o (by decide) f285), (rc_o (by decide) f286), (rc_o (by decide) f287), (rc_o (by decide) f288), ra_eq, (rc_o (by decide) f290), (rc_o (by decide) f291), (rc_o (by decide) f292), (rc_o (by decide) f293), (rc_o (by decide) f294), (rc_o (by decide) f295), (rc_o (by decide) f296), (rc_o (by decide) f297), (rc_o (by decide) f298), (rc_o (by decide) f299), (rc_o (by decide) f300), (rc_o (by decide) f301), (CXJ.putA cj281 cx275.1 (by decide) rfl un282 (by rw [o280]; decide) ne270z)⟩
  rw [← eS306]
  clear cx275 cj281 f283 f284 f285 f286 f287 f288 f289 f290 f291 f292 f293 f294 f295 f296 f297 f298 f299 f300 f301
  refine tn_aload_n dX5_init_51 rfl 0 rfl ?_
  refine tn_sipush dX5_init_52 (by decide) ?_
  refine tn_newI (N := 256) (k := 19) dX5_init_55 arC_int (by decide) rfl (by decide) (fun x328 hx329 => ?_)
  have ne330 := cx307.ne hx329
  have ne330z := (cx307.fresh hx329).resolve_right (fun e => ne330 e.symm)
  have ne330_x94 : x94 ≠ x328 := fun e => by rw [← e, o277] at hx329; exact absurd hx329 (by decide)
  have ne330j := CXJ.new (T2 := (tT T271 x328 19 256)) (σ2 := (rowS (1000 + x328) (fun _ => 0) (gh 256 σ304))) cj308 cx307.1 cx307.2.1 hx329 (by rw [tT_eq]; decide) (fun b9 e9 => tT_ne e9) (fun n9 c9 hn9 hc9 => by rw [rowS_ne (by omega)]; rfl)
  obtain ⟨T331, σ332, eT333, eS334, cx335, f344, f345, f346, f347, f348, f349, f350, f351, f352, f353, f354, f355, f356, f357, f358, f359, f360, f361, f362, o336, o337, o338, o339, o340, o341, nx363, nx364, cj342, un343⟩ : ∃ (T331 : CT) (σ332 : MS), T331 = (tT T271 x328 19 256) ∧ σ332 = (rowS (1000 + x328) (fun _ => 0) (gh 256 σ304)) ∧ CX a 5 K 4641 9 T σ T331 σ332 ∧ (σ332.2.1 33 a = (x1 : Int)) ∧ (σ332.2.1 34 a = (x94 : Int)) ∧ (σ332.2.1 35 a = -1) ∧ (σ332.2.1 36 a = (x151 : Int)) ∧ (σ332.2.1 37 a = (x209 : Int)) ∧ (σ332.2.1 38 a = 0) ∧ (σ332.2.1 39 a = (x268 : Int)) ∧ (σ332.2.1 40 a = -1) ∧ (σ332.2.1 41 a = -1) ∧ (σ332.2.1 42 a = 0) ∧ (σ332.2.1 43 a = 0) ∧ (σ332.2.1 44 a = 0) ∧ (σ332.2.1 45 a = 0) ∧ (σ332.2.1 46 a = 0) ∧ (σ332.2.1 47 a = 0) ∧ (σ332.2.1 48 a = -1) ∧ (σ332.2.1 49 a = -1) ∧ (σ332.2.1 50 a = 0) ∧ (σ332.2.1 51 a = 0) ∧ (T331 x1 = (39, 0)) ∧ (T331 x94 = (94, 7)) ∧ (T331 x151 = (16, 256)) ∧ (T331 x209 = (17, 256)) ∧ (T331 x268 = (18, 256)) ∧ (T331 x328 = (19, 256)) ∧ NX 7 a T T331 ∧ NX 41 a T T331 ∧ CXJ S0 a 5 T T331 σ332 ∧ UNF a 5 x328 T331 σ332 := ⟨_, _, rfl, rfl, (cx307.newI hx329 (by decide)), (by rw [rowS_ne (by omega)]; exact f309), (by rw [rowS_ne (by omega)]; exact f310), (by rw [rowS_ne (by omega)]; exact f311), (by rw [rowS_ne (by omega)]; exact f312), (by rw [rowS_ne (by omega)]; exact f313), (by rw [rowS_ne (by omega)]; exact f314), (by rw [rowS_ne (by omega)]; exact f315), (by rw [rowS_ne (by omega)]; exact f316), (by rw [rowS_ne (by omega)]; exact f317), (by rw [rowS_ne (by omega)]; exact f318), (by rw [rowS_ne (by omega)]; exact f319), (by rw [rowS_ne (by omega)]; exact f320), (by rw [rowS_ne (by omega)]; exact f321), (by rw [rowS_ne (by omega)]; exact f322), (by rw [rowS_ne (by omega)]; exact f323), (by rw [rowS_ne (by omega)]; exact f324), (by rw [rowS_ne (by omega)]; exact f325), (by rw [rowS_ne (by omega)]; exact f326), (by rw [rowS_ne (by omega)]; exact f327), (tk_keep o276 (by decide) hx329), (tk_keep o277 (by decide) hx329), (tk_keep o278 (by decide) hx329), (tk_keep o279 (by decide) hx329), (tk_keep o280 (by decide) hx329), tT_eq, (nx302.mk9 (by decide)), (nx303.mk9 (by decide)), ne330j.1, ne330j.2⟩
  rw [← eT333]
  rw [← eS334]
  clear cx307 cj308 f309 f310 f311 f312 f313 f314 f315 f316 f317 f318 f319 f320 f321 f322 f323 f324 f325 f326 f327 nx302 nx303 o276 o277 o278 o279 o280
  refine tn_putFr (ci := 5) (i := 7) (n := 40) (r := true) (v := (x328 : Int)) tyX5 tyX5_ok nmX5 dX5_init_57 rfl lay_5 (by decide) fl5_34 rfl rfl rfl (tyX5_ok 7 (by decide)) (vl_ref rfl).symm rfl rfl (cx335.r (by decide)) rfl rfl ?_
  obtain ⟨σ365, eS367, cx368, f370, f371, f372, f373, f374, f375, f376, f377, f378, f379, f380, f381, f382, f383, f384, f385, f386, f387, f388, cj369⟩ : ∃ (σ365 : MS), σ365 = (sA 40 a ((x328 : Int)) σ332) ∧ CX a 5 K 4641 9 T σ T331 σ365 ∧ (σ365.2.1 33 a = (x1 : Int)) ∧ (σ365.2.1 34 a = (x94 : Int)) ∧ (σ365.2.1 35 a = -1) ∧ (σ365.2.1 36 a = (x151 : Int)) ∧ (σ365.2.1 37 a = (x209 : Int)) ∧ (σ365.2.1 38 a = 0) ∧ (σ365.2.1 39 a = (x268 : Int)) ∧ (σ365.2.1 40 a = (x328 : Int)) ∧ (σ365.2.1 41 a = -1) ∧ (σ365.2.1 42 a = 0) ∧ (σ365.2.1 43 a = 0) ∧ (σ365.2.1 44 a = 0) ∧ (σ365.2.1 45 a = 0) ∧ (σ365.2.1 46 a = 0) ∧ (σ365.2.1 47 a = 0) ∧ (σ365.2.1 48 a = -1) ∧ (σ365.2.1 49 a = -1) ∧ (σ365.2.1 50 a = 0) ∧ (σ365.2.1 51 a = 0) ∧ CXJ S0 a 5 T T331 σ365 := ⟨_, rfl, (cx335.put (by decide)), (rc_o (by decide) f344), (rc_o (by decide) f345), (rc_o (by decide) f346), (rc_o (by decide) f347), (rc_o (by decide) f348), (rc_o (by decide) f349), (rc_o (by decide) f350), ra_eq, (rc_o (by decide) f352), (rc_o (by decide) f353), (rc_o (by decide) f354), (rc_o (by decide) f355), (rc_o (by decide) f356), (rc_o (by decide) f357), (rc_o (by decide) f358), (rc_o (by decide) f359), (rc_o (by decide) f360), (rc_o (by decide) f361), (rc_o (by decide) f362), (CXJ.putA cj342 cx335.1 (by decide) rfl un343 (by rw [o341]; decide) ne330z)⟩
  rw [← eS367]
  clear cx335 cj342 f344 f345 f346 f347 f348 f349 f350 f351 f352 f353 f354 f355 f356 f357 f358 f359 f360 f361 f362
  refine tn_aload_n dX5_init_60 rfl 0 rfl ?_
  refine tn_sipush dX5_init_61 (by decide) ?_
  refine tn_newI (N := 256) (k := 20) dX5_init_64 arC_int (by decide) rfl (by decide) (fun x389 hx390 => ?_)
  have ne391 := cx368.ne hx390
  have ne391z := (cx368.fresh hx390).resolve_right (fun e => ne391 e.symm)
  have ne391_x94 : x94 ≠ x389 := fun e => by rw [← e, o337] at hx390; exact absurd hx390 (by decide)
  have ne391j := CXJ.new (T2 := (tT T331 x389 20 256)) (σ2 := (rowS (1000 + x389) (fun _ => 0) (gh 256 σ365))) cj369 cx368.1 cx368.2.1 hx390 (by rw [tT_eq]; decide) (fun b9 e9 => tT_ne e9) (fun n9 c9 hn9 hc9 => by rw [rowS_ne (by omega)]; rfl)
  obtain ⟨T392, σ393, eT394, eS395, cx396, f406, f407, f408, f409, f410, f411, f412, f413, f414, f415, f416, f417, f418, f419, f420, f421, f422, f423, f424, o397, o398, o399, o400, o401, o402, o403, nx425, nx426, cj404, un405⟩ : ∃ (T392 : CT) (σ393 : MS), T392 = (tT T331 x389 20 256) ∧ σ393 = (rowS (1000 + x389) (fun _ => 0) (gh 256 σ365)) ∧ CX a 5 K 4897 10 T σ T392 σ393 ∧ (σ393.2.1 33 a = (x1 : Int)) ∧ (σ393.2.1 34 a = (x94 : Int)) ∧ (σ393.2.1 35 a = -1) ∧ (σ393.2.1 36 a = (x151 : Int)) ∧ (σ393.2.1 37 a = (x209 : Int)) ∧ (σ393.2.1 38 a = 0) ∧ (σ393.2.1 39 a = (x268 : Int)) ∧ (σ393.2.1 40 a = (x328 : Int)) ∧ (σ393.2.1 41 a = -1) ∧ (σ393.2.1 42 a = 0) ∧ (σ393.2.1 43 a = 0) ∧ (σ393.2.1 44 a = 0) ∧ (σ393.2.1 45 a = 0) ∧ (σ393.2.1 46 a = 0) ∧ (σ393.2.1 47 a = 0) ∧ (σ393.2.1 48 a = -1) ∧ (σ393.2.1 49 a = -1) ∧ (σ393.2.1 50 a = 0) ∧ (σ393.2.1 51 a = 0) ∧ (T392 x1 = (39, 0)) ∧ (T392 x94 = (94, 7)) ∧ (T392 x151 = (16, 256)) ∧ (T392 x209 = (17, 256)) ∧ (T392 x268 = (18, 256)) ∧ (T392 x328 = (19, 256)) ∧ (T392 x389 = (20, 256)) ∧ NX 7 a T T392 ∧ NX 41 a T T392 ∧ CXJ S0 a 5 T T392 σ393 ∧ UNF a 5 x389 T392 σ393 := ⟨_, _, rfl, rfl, (cx368.newI hx390 (by decide)), (by rw [rowS_ne (by omega)]; exact f370), (by rw [rowS_ne (by omega)]; exact f371), (by rw [rowS_ne (by omega)]; exact f372), (by rw [rowS_ne (by omega)]; exact f373), (by rw [rowS_ne (by omega)]; exact f374), (by rw [rowS_ne (by omega)]; exact f375), (by rw [rowS_ne (by omega)]; exact f376), (by rw [rowS_ne (by omega)]; exact f377), (by rw [rowS_ne (by omega)]; exact f378), (by rw [rowS_ne (by omega)]; exact f379), (by rw [rowS_ne (by omega)]; exact f380), (by rw [rowS_ne (by omega)]; exact f381), (by rw [rowS_ne (by omega)]; exact f382), (by rw [rowS_ne (by omega)]; exact f383), (by rw [rowS_ne (by omega)]; exact f384), (by rw [rowS_ne (by omega)]; exact f385), (by rw [rowS_ne (by omega)]; exact f386), (by rw [rowS_ne (by omega)]; exact f387), (by rw [rowS_ne (by omega)]; exact f388), (tk_keep o336 (by decide) hx390), (tk_keep o337 (by decide) hx390), (tk_keep o338 (by decide) hx390), (tk_keep o339 (by decide) hx390), (tk_keep o340 (by decide) hx390), (tk_keep o341 (by decide) hx390), tT_eq, (nx363.mk9 (by decide)), (nx364.mk9 (by decide)), ne391j.1, ne391j.2⟩
  rw [← eT394]
  rw [← eS395]
  clear cx368 cj369 f370 f371 f372 f373 f374 f375 f376 f377 f378 f379 f380 f381 f382 f383 f384 f385 f386 f387 f388 nx363 nx364 o336 o337 o338 o339 o340 o341
  refine tn_putFr (ci := 5) (i := 8) (n := 41) (r := true) (v := (x389 : Int)) tyX5 tyX5_ok nmX5 dX5_init_66 rfl lay_5 (by decide) fl5_37 rfl rfl rfl (tyX5_ok 8 (by decide)) (vl_ref rfl).symm rfl rfl (cx396.r (by decide)) rfl rfl ?_
  obtain ⟨σ427, eS429, cx430, f432, f433, f434, f435, f436, f437, f438, f439, f440, f441, f442, f443, f444, f445, f446, f447, f448, f449, f450, cj431⟩ : ∃ (σ427 : MS), σ427 = (sA 41 a ((x389 : Int)) σ393) ∧ CX a 5 K 4897 10 T σ T392 σ427 ∧ (σ427.2.1 33 a = (x1 : Int)) ∧ (σ427.2.1 34 a = (x94 : Int)) ∧ (σ427.2.1 35 a = -1) ∧ (σ427.2.1 36 a = (x151 : Int)) ∧ (σ427.2.1 37 a = (x209 : Int)) ∧ (σ427.2.1 38 a = 0) ∧ (σ427.2.1 39 a = (x268 : Int)) ∧ (σ427.2.1 40 a = (x328 : Int)) ∧ (σ427.2.1 41 a = (x389 : Int)) ∧ (σ427.2.1 42 a = 0) ∧ (σ427.2.1 43 a = 0) ∧ (σ427.2.1 44 a = 0) ∧ (σ427.2.1 45 a = 0) ∧ (σ427.2.1 46 a = 0) ∧ (σ427.2.1 47 a = 0) ∧ (σ427.2.1 48 a = -1) ∧ (σ427.2.1 49 a = -1) ∧ (σ427.2.1 50 a = 0) ∧ (σ427.2.1 51 a = 0) ∧ CXJ S0 a 5 T T392 σ427 := ⟨_, rfl, (cx396.put (by decide)), (rc_o (by decide) f406), (rc_o (by decide) f407), (rc_o (by decide) f408), (rc_o (by decide) f409), (rc_o (by decide) f410), (rc_o (by decide) f411), (rc_o (by decide) f412), (rc_o (by decide) f413), ra_eq, (rc_o (by decide) f415), (rc_o (by decide) f416), (rc_o (by decide) f417), (rc_o (by decide) f418), (rc_o (by decide) f419), (rc_o (by decide) f420), (rc_o (by decide) f421), (rc_o (by decide) f422), (rc_o (by decide) f423), (rc_o (by decide) f424), (CXJ.putA cj404 cx396.1 (by decide) rfl un405 (by rw [o403]; decide) ne391z)⟩
  rw [← eS429]
  clear cx396 cj404 f406 f407 f408 f409 f410 f411 f412 f413 f414 f415 f416 f417 f418 f419 f420 f421 f422 f423 f424
  refine tn_aload_n dX5_init_69 rfl 0 rfl ?_
  refine tn_bipush dX5_init_70 (by decide) ?_
  refine tn_newI (N := 12) (k := 21) dX5_init_72 arC_int (by decide) rfl (by decide) (fun x451 hx452 => ?_)
  have ne453 := cx430.ne hx452
  have ne453z := (cx430.fresh hx452).resolve_right (fun e => ne453 e.symm)
  have ne453_x94 : x94 ≠ x451 := fun e => by rw [← e, o398] at hx452; exact absurd hx452 (by decide)
  have ne453j := CXJ.new (T2 := (tT T392 x451 21 12)) (σ2 := (rowS (1000 + x451) (fun _ => 0) (gh 12 σ427))) cj431 cx430.1 cx430.2.1 hx452 (by rw [tT_eq]; decide) (fun b9 e9 => tT_ne e9) (fun n9 c9 hn9 hc9 => by rw [rowS_ne (by omega)]; rfl)
  obtain ⟨T454, σ455, eT456, eS457, cx458, f469, f470, f471, f472, f473, f474, f475, f476, f477, f478, f479, f480, f481, f482, f483, f484, f485, f486, f487, o459, o460, o461, o462, o463, o464, o465, o466, nx488, nx489, cj467, un468⟩ : ∃ (T454 : CT) (σ455 : MS), T454 = (tT T392 x451 21 12) ∧ σ455 = (rowS (1000 + x451) (fun _ => 0) (gh 12 σ427)) ∧ CX a 5 K 4909 11 T σ T454 σ455 ∧ (σ455.2.1 33 a = (x1 : Int)) ∧ (σ455.2.1 34 a = (x94 : Int)) ∧ (σ455.2.1 35 a = -1) ∧ (σ455.2.1 36 a = (x151 : Int)) ∧ (σ455.2.1 37 a = (x209 : Int)) ∧ (σ455.2.1 38 a = 0) ∧ (σ455.2.1 39 a = (x268 : Int)) ∧ (σ455.2.1 40 a = (x328 : Int)) ∧ (σ455.2.1 41 a = (x389 : Int)) ∧ (σ455.2.1 42 a = 0) ∧ (σ455.2.1 43 a = 0) ∧ (σ455.2.1 44 a = 0) ∧ (σ455.2.1 45 a = 0) ∧ (σ455.2.1 46 a = 0) ∧ (σ455.2.1 47 a = 0) ∧ (σ455.2.1 48 a = -1) ∧ (σ455.2.1 49 a = -1) ∧ (σ455.2.1 50 a = 0) ∧ (σ455.2.1 51 a = 0) ∧ (T454 x1 = (39, 0)) ∧ (T454 x94 = (94, 7)) ∧ (T454 x151 = (16, 256)) ∧ (T454 x209 = (17, 256)) ∧ (T454 x268 = (18, 256)) ∧ (T454 x328 = (19, 256)) ∧ (T454 x389 = (20, 256)) ∧ (T454 x451 = (21, 12)) ∧ NX 7 a T T454 ∧ NX 41 a T T454 ∧ CXJ S0 a 5 T T454 σ455 ∧ UNF a 5 x451 T454 σ455 := ⟨_, _, rfl, rfl, (cx430.newI hx452 (by decide)), (by rw [rowS_ne (by omega)]; exact f432), (by rw [rowS_ne (by omega)]; exact f433), (by rw [rowS_ne (by omega)]; exact f434), (by rw [rowS_ne (by omega)]; exact f435), (by rw [rowS_ne (by omega)]; exact f436), (by rw [rowS_ne (by omega)]; exact f437), (by rw [rowS_ne (by omega)]; exact f438), (by rw [rowS_ne (by omega)]; exact f439), (by rw [rowS_ne (by omega)]; exact f440), (by rw [rowS_ne (by omega)]; exact f441), (by rw [rowS_ne (by omega)]; exact f442), (by rw [rowS_ne (by omega)]; exact f443), (by rw [rowS_ne (by omega)]; exact f444), (by rw [rowS_ne (by omega)]; exact f445), (by rw [rowS_ne (by omega)]; exact f446), (by rw [rowS_ne (by omega)]; exact f447), (by rw [rowS_ne (by omega)]; exact f448), (by rw [rowS_ne (by omega)]; exact f449), (by rw [rowS_ne (by omega)]; exact f450), (tk_keep o397 (by decide) hx452), (tk_keep o398 (by decide) hx452), (tk_keep o399 (by decide) hx452), (tk_keep o400 (by decide) hx452), (tk_keep o401 (by decide) hx452), (tk_keep o402 (by decide) hx452), (tk_keep o403 (by decide) hx452), tT_eq, (nx425.mk9 (by decide)), (nx426.mk9 (by decide)), ne453j.1, ne453j.2⟩
  rw [← eT456]
  rw [← eS457]
  clear cx430 cj431 f432 f433 f434 f435 f436 f437 f438 f439 f440 f441 f442 f443 f444 f445 f446 f447 f448 f449 f450 nx425 nx426 o397 o398 o399 o400 o401 o402 o403
  refine tn_putFr (ci := 5) (i := 15) (n := 48) (r := true) (v := (x451 : Int)) tyX5 tyX5_ok nmX5 dX5_init_74 rfl lay_5 (by decide) fl5_40 rfl rfl rfl (tyX5_ok 15 (by decide)) (vl_ref rfl).symm rfl rfl (cx458.r (by decide)) rfl rfl ?_
  obtain ⟨σ490, eS492, cx493, f495, f496, f497, f498, f499, f500, f501, f502, f503, f504, f505, f506, f507, f508, f509, f510, f511, f512, f513, cj494⟩ : ∃ (σ490 : MS), σ490 = (sA 48 a ((x451 : Int)) σ455) ∧ CX a 5 K 4909 11 T σ T454 σ490 ∧ (σ490.2.1 33 a = (x1 : Int)) ∧ (σ490.2.1 34 a = (x94 : Int)) ∧ (σ490.2.1 35 a = -1) ∧ (σ490.2.1 36 a = (x151 : Int)) ∧ (σ490.2.1 37 a = (x209 : Int)) ∧ (σ490.2.1 38 a = 0) ∧ (σ490.2.1 39 a = (x268 : Int)) ∧ (σ490.2.1 40 a = (x328 : Int)) ∧ (σ490.2.1 41 a = (x389 : Int)) ∧ (σ490.2.1 42 a = 0) ∧ (σ490.2.1 43 a = 0) ∧ (σ490.2.1 44 a = 0) ∧ (σ490.2.1 45 a = 0) ∧ (σ490.2.1 46 a = 0) ∧ (σ490.2.1 47 a = 0) ∧ (σ490.2.1 48 a = (x451 : Int)) ∧ (σ490.2.1 49 a = -1) ∧ (σ490.2.1 50 a = 0) ∧ (σ490.2.1 51 a = 0) ∧ CXJ S0 a 5 T T454 σ490 := ⟨_, rfl, (cx458.put (by decide)), (rc_o (by decide) f469), (rc_o (by decide) f470), (rc_o (by decide) f471), (rc_o (by decide) f472), (rc_o (by decide) f473), (rc_o (by decide) f474), (rc_o (by decide) f475), (rc_o (by decide) f476), (rc_o (by decide) f477), (rc_o (by decide) f478), (rc_o (by decide) f479), (rc_o (by decide) f480), (rc_o (by decide) f481), (rc_o (by decide) f482), (rc_o (by decide) f483), ra_eq, (rc_o (by decide) f485), (rc_o (by decide) f486), (rc_o (by decide) f487), (CXJ.putA cj467 cx458.1 (by decide) rfl un468 (by rw [o466]; decide) ne453z)⟩
  rw [← eS492]
  clear cx458 cj467 f469 f470 f471 f472 f473 f474 f475 f476 f477 f478 f479 f480 f481 f482 f483 f484 f485 f486 f487
  refine tn_aload_n dX5_init_77 rfl 0 rfl ?_
  refine tn_bipush dX5_init_78 (by decide) ?_
  refine tn_newI (N := 8) (k := 1) dX5_init_80 arC_int (by decide) rfl (by decide) (fun x514 hx515 => ?_)
  have ne516 := cx493.ne hx515
  have ne516z := (cx493.fresh hx515).resolve_right (fun e => ne516 e.symm)
  have ne516_x94 : x94 ≠ x514 := fun e => by rw [← e, o460] at hx515; exact absurd hx515 (by decide)
  have ne516j := CXJ.new (T2 := (tT T454 x514 1 8)) (σ2 := (rowS (1000 + x514) (fun _ => 0) (gh 8 σ490))) cj494 cx493.1 cx493.2.1 hx515 (by rw [tT_eq]; decide) (fun b9 e9 => tT_ne e9) (fun n9 c9 hn9 hc9 => by rw [rowS_ne (by omega)]; rfl)
  obtain ⟨T517, σ518, eT519, eS520, cx521, f533, f534, f535, f536, f537, f538, f539, f540, f541, f542, f543, f544, f545, f546, f547, f548, f549, f550, f551, o522, o523, o524, o525, o526, o527, o528, o529, o530, nx552, nx553, cj531, un532⟩ : ∃ (T517 : CT) (σ518 : MS), T517 = (tT T454 x514 1 8) ∧ σ518 = (rowS (1000 + x514) (fun _ => 0) (gh 8 σ490)) ∧ CX a 5 K 4917 12 T σ T517 σ518 ∧ (σ518.2.1 33 a = (x1 : Int)) ∧ (σ518.2.1 34 a = (x94 : Int)) ∧ (σ518.2.1 35 a = -1) ∧ (σ518.2.1 36 a = (x151 : Int)) ∧ (σ518.2.1 37 a = (x209 : Int)) ∧ (σ518.2.1 38 a = 0) ∧ (σ518.2.1 39 a = (x268 : Int)) ∧ (σ518.2.1 40 a = (x328 : Int)) ∧ (σ518.2.1 41 a = (x389 : Int)) ∧ (σ518.2.1 42 a = 0) ∧ (σ518.2.1 43 a = 0) ∧ (σ518.2.1 44 a = 0) ∧ (σ518.2.1 45 a = 0) ∧ (σ518.2.1 46 a = 0) ∧ (σ518.2.1 47 a = 0) ∧ (σ518.2.1 48 a = (x451 : Int)) ∧ (σ518.2.1 49 a = -1) ∧ (σ518.2.1 50 a = 0) ∧ (σ518.2.1 51 a = 0) ∧ (T517 x1 = (39, 0)) ∧ (T517 x94 = (94, 7)) ∧ (T517 x151 = (16, 256)) ∧ (T517 x209 = (17, 256)) ∧ (T517 x268 = (18, 256)) ∧ (T517 x328 = (19, 256)) ∧ (T517 x389 = (20, 256)) ∧ (T517 x451 = (21, 12)) ∧ (T517 x514 = (1, 8)) ∧ NX 7 a T T517 ∧ NX 41 a T T517 ∧ CXJ S0 a 5 T T517 σ518 ∧ UNF a 5 x514 T517 σ518 := ⟨_, _, rfl, rfl, (cx493.newI hx515 (by decide)), (by rw [rowS_ne (by omega)]; exact f495), (by rw [rowS_ne (by omega)]; exact f496), (by rw [rowS_ne (by omega)]; exact f497), (by rw [rowS_ne (by omega)]; exact f498), (by rw [rowS_ne (by omega)]; exact f499), (by rw [rowS_ne (by omega)]; exact f500), (by rw [rowS_ne (by omega)]; exact f501), (by rw [rowS_ne (by omega)]; exact f502), (by rw [rowS_ne (by omega)]; exact f503), (by rw [rowS_ne (by omega)]; exact f504), (by rw [rowS_ne (by omega)]; exact f505), (by rw [rowS_ne (by omega)]; exact f506), (by rw [rowS_ne (by omega)]; exact f507), (by rw [rowS_ne (by omega)]; exact f508), (by rw [rowS_ne (by omega)]; exact f509), (by rw [rowS_ne (by omega)]; exact f510), (by rw [rowS_ne (by omega)]; exact f511), (by rw [rowS_ne (by omega)]; exact f512), (by rw [rowS_ne (by omega)]; exact f513), (tk_keep o459 (by decide) hx515), (tk_keep o460 (by decide) hx515), (tk_keep o461 (by decide) hx515), (tk_keep o462 (by decide) hx515), (tk_keep o463 (by decide) hx515), (tk_keep o464 (by decide) hx515), (tk_keep o465 (by decide) hx515), (tk_keep o466 (by decide) hx515), tT_eq, (nx488.mk9 (by decide)), (nx489.mk9 (by decide)), ne516j.1, ne516j.2⟩
  rw [← eT519]
  rw [← eS520]
  clear cx493 cj494 f495 f496 f497 f498 f499 f500 f501 f502 f503 f504 f505 f506 f507 f508 f509 f510 f511 f512 f513 nx488 nx489 o459 o460 o461 o462 o463 o464 o465 o466
  refine tn_putFr (ci := 5) (i := 16) (n := 49) (r := true) (v := (x514 : Int)) tyX5 tyX5_ok nmX5 dX5_init_82 rfl lay_5 (by decide) fl5_43 rfl rfl rfl (tyX5_ok 16 (by decide)) (vl_ref rfl).symm rfl rfl (cx521.r (by decide)) rfl rfl ?_
  obtain ⟨σ554, eS556, cx557, f559, f560, f561, f562, f563, f564, f565, f566, f567, f568, f569, f570, f571, f572, f573, f574, f575, f576, f577, cj558⟩ : ∃ (σ554 : MS), σ554 = (sA 49 a ((x514 : Int)) σ518) ∧ CX a 5 K 4917 12 T σ T517 σ554 ∧ (σ554.2.1 33 a = (x1 : Int)) ∧ (σ554.2.1 34 a = (x94 : Int)) ∧ (σ554.2.1 35 a = -1) ∧ (σ554.2.1 36 a = (x151 : Int)) ∧ (σ554.2.1 37 a = (x209 : Int)) ∧ (σ554.2.1 38 a = 0) ∧ (σ554.2.1 39 a = (x268 : Int)) ∧ (σ554.2.1 40 a = (x328 : Int)) ∧ (σ554.2.1 41 a = (x389 : Int)) ∧ (σ554.2.1 42 a = 0) ∧ (σ554.2.1 43 a = 0) ∧ (σ554.2.1 44 a = 0) ∧ (σ554.2.1 45 a = 0) ∧ (σ554.2.1 46 a = 0) ∧ (σ554.2.1 47 a = 0) ∧ (σ554.2.1 48 a = (x451 : Int)) ∧ (σ554.2.1 49 a = (x514 : Int)) ∧ (σ554.2.1 50 a = 0) ∧ (σ554.2.1 51 a = 0) ∧ CXJ S0 a 5 T T517 σ554 := ⟨_, rfl, (cx521.put (by decide)), (rc_o (by decide) f533), (rc_o (by decide) f534), (rc_o (by decide) f535), (rc_o (by decide) f536), (rc_o (by decide) f537), (rc_o (by decide) f538), (rc_o (by decide) f539), (rc_o (by decide) f540), (rc_o (by decide) f541), (rc_o (by decide) f542), (rc_o (by decide) f543), (rc_o (by decide) f544), (rc_o (by decide) f545), (rc_o (by decide) f546), (rc_o (by decide) f547), (rc_o (by decide) f548), ra_eq, (rc_o (by decide) f550), (rc_o (by decide) f551), (CXJ.putA cj531 cx521.1 (by decide) rfl un532 (by rw [o530]; decide) ne516z)⟩
  rw [← eS556]
  clear cx521 cj531 f533 f534 f535 f536 f537 f538 f539 f540 f541 f542 f543 f544 f545 f546 f547 f548 f549 f550 f551
  refine tn_iconst dX5_init_85 ?_
  refine tn_istore_n (L' := [(1, .int (iI 0)), (0, .ref a)]) dX5_init_86 rfl (by decide) rfl ?_
  refine tn_iload_n dX5_init_87 rfl 0 rfl ?_
  refine tn_aload_n dX5_init_88 rfl 1 rfl ?_
  refine tn_getVr (ci := 5) (i := 1) (n := 34) (r := true) dX5_init_89 rfl lay_5 (by decide) fl5_20 (cx557.r (by decide)) rfl rfl ?_
  rw [f560, vl_ref rfl]
  refine tn_alen dX5_init_92 (fun P0 => ovC_q (by rw [o523]; decide)) rfl ?_
  rw [show (T517 x94).2 = 7 by rw [o523]]
  show Tn _ _ 93 T517 σ554 [(1, .int (iI 0)), (0, .ref a)] [.int (iI 7), .int (iI 0)] _
  refine tn_icmp_ge (tgt := 115) dX5_init_93 (by decide) ⟨by decide, by decide⟩ ⟨by decide, by decide⟩ (fun h => absurd h (by decide)) (fun _ => ?_)
  refine tn_aload_n dX5_init_96 rfl 1 rfl ?_
  refine tn_getVr (ci := 5) (i := 1) (n := 34) (r := true) dX5_init_97 rfl lay_5 (by decide) fl5_20 (cx557.r (by decide)) rfl rfl ?_
  rw [f560, vl_ref rfl]
  refine tn_iload_n dX5_init_100 rfl 0 rfl ?_
  refine tn_newO (ci := 1) (N := 12) tyX1 tyX1_ok dX5_init_101 rfl lay_1 cl5_18 ist_1 ini_1 df_1 rfl (by decide) hfd_1 (fun x578 hx579 => ?_)
  have ne580 := cx557.ne hx579
  have ne580z := (cx557.fresh hx579).resolve_right (fun e => ne580 e.symm)
  have ne580_x94 : x94 ≠ x578 := fun e => by rw [← e, o523] at hx579; exact absurd hx579 (by decide)
  have ne580d : ∀ j, j < 200 → (objS x578 (gh 12 σ554)).2.1 j (x578 : Int) = dfF j := fun j hj => objS_eq hj
  have ne580j := CXJ.new (T2 := (tT T517 x578 (80 + 1) 0)) (σ2 := (objS x578 (gh 12 σ554))) cj558 cx557.1 cx557.2.1 hx579 (by rw [tT_eq]; decide) (fun b9 e9 => tT_ne e9) (fun n9 c9 hn9 hc9 => by rw [objS_ne (by omega)]; rfl)
  obtain ⟨T581, σ582, eT583, eS584, cx585, f597, f598, f599, f600, f601, f602, f603, f604, f605, f606, f607, f608, f609, f610, f611, f612, f613, f614, f615, o586, o587, o588, o589, o590, o591, o592, o593, o594, o595, nx616, nx617, cj596⟩ : ∃ (T581 : CT) (σ582 : MS), T581 = (tT T517 x578 (80 + 1) 0) ∧ σ582 = (objS x578 (gh 12 σ554)) ∧ CX a 5 K 4929 13 T σ T581 σ582 ∧ (σ582.2.1 33 a = (x1 : Int)) ∧ (σ582.2.1 34 a = (x94 : Int)) ∧ (σ582.2.1 35 a = -1) ∧ (σ582.2.1 36 a = (x151 : Int)) ∧ (σ582.2.1 37 a = (x209 : Int)) ∧ (σ582.2.1 38 a = 0) ∧ (σ582.2.1 39 a = (x268 : Int)) ∧ (σ582.2.1 40 a = (x328 : Int)) ∧ (σ582.2.1 41 a = (x389 : Int)) ∧ (σ582.2.1 42 a = 0) ∧ (σ582.2.1 43 a = 0) ∧ (σ582.2.1 44 a = 0) ∧ (σ582.2.1 45 a = 0) ∧ (σ582.2.1 46 a = 0) ∧ (σ582.2.1 47 a = 0) ∧ (σ582.2.1 48 a = (x451 : Int)) ∧ (σ582.2.1 49 a = (x514 : Int)) ∧ (σ582.2.1 50 a = 0) ∧ (σ582.2.1 51 a = 0) ∧ (T581 x1 = (39, 0)) ∧ (T581 x94 = (94, 7)) ∧ (T581 x151 = (16, 256)) ∧ (T581 x209 = (17, 256)) ∧ (T581 x268 = (18, 256)) ∧ (T581 x328 = (19, 256)) ∧ (T581 x389 = (20, 256)) ∧ (T581 x451 = (21, 12)) ∧ (T581 x514 = (1, 8)) ∧ (T581 x578 = (81, 0)) ∧ NX 7 a T T581 ∧ NX 41 a T T581 ∧ CXJ S0 a 5 T T581 σ582 := ⟨_, _, rfl, rfl, (cx557.newO hx579 (by decide)), (by rw [objS_ne (by omega)]; exact f559), (by rw [objS_ne (by omega)]; exact f560), (by rw [objS_ne (by omega)]; exact f561), (by rw [objS_ne (by omega)]; exact f562), (by rw [objS_ne (by omega)]; exact f563), (by rw [objS_ne (by omega)]; exact f564), (by rw [objS_ne (by omega)]; exact f565), (by rw [objS_ne (by omega)]; exact f566), (by rw [objS_ne (by omega)]; exact f567), (by rw [objS_ne (by omega)]; exact f568), (by rw [objS_ne (by omega)]; exact f569), (by rw [objS_ne (by omega)]; exact f570), (by rw [objS_ne (by omega)]; exact f571), (by rw [objS_ne (by omega)]; exact f572), (by rw [objS_ne (by omega)]; exact f573), (by rw [objS_ne (by omega)]; exact f574), (by rw [objS_ne (by omega)]; exact f575), (by rw [objS_ne (by omega)]; exact f576), (by rw [objS_ne (by omega)]; exact f577), (tk_keep o522 (by decide) hx579), (tk_keep o523 (by decide) hx579), (tk_keep o524 (by decide) hx579), (tk_keep o525 (by decide) hx579), (tk_keep o526 (by decide) hx579), (tk_keep o527 (by decide) hx579), (tk_keep o528 (by decide) hx579), (tk_keep o529 (by decide) hx579), (tk_keep o530 (by decide) hx579), tT_eq, (nx552.mk9 (by decide)), (nx553.mk9 (by decide)), ne580j.1⟩
  rw [← eT583]
  rw [← eS584]
  rw [← eS584] at ne580d
  clear cx557 cj558 f559 f560 f561 f562 f563 f564 f565 f566 f567 f568 f569 f570 f571 f572 f573 f574 f575 f576 f577 nx552 nx553 o522 o523 o524 o525 o526 o527 o528 o529 o530
  refine tn_dup dX5_init_104 rfl ?_
  refine tn_callIN (M := m_X5_init) (pc := 105) (ix := 46) (M' := m_X1_init) (As := []) (rest := [.ref x578, .int (iI 0), .ref x94]) dX5_init_105 ok_X1_init rfl rfl im_X1_init nl5_46 np_X1_init rfl (Nat.le_of_ble_eq_true rfl) (Nat.le_of_ble_eq_true rfl) rfl (kj_X1_init_31 (d) (T := T581) (σ := σ582) (a := x578) (K := K)  o595 cx585.2.1 cx585.2.2.1 ne580d cj596.1 ) (fun r618 T619 σ620 gt621 hp => ?_)
  obtain ⟨rfl, hr622, w623, cd624, kp625, ga626, gb627, hr622i, hr622f, hr622n7, hr622n41⟩ := hp
  have ne580b : a ≠ x578 := ne580
  have kp625a := kp625.1 a (by rw [cx585.1]; decide) ne580b
  have kp625_x94 := kp625.1 x94 (by rw [o587]; decide) ne580_x94
  obtain ⟨T628, σ629, eT630, eS631, cx632, f644, f645, f646, f647, f648, f649, f650, f651, f652, f653, f654, f655, f656, f657, f658, f659, f660, f661, f662, o633, o634, o635, o636, o637, o638, o639, o640, o641, o642, nx663, nx664, cj643⟩ : ∃ (T628 : CT) (σ629 : MS), T628 = T619 ∧ σ629 = σ620 ∧ CX a 5 (x578 :: K) 5342 20 T σ T628 σ629 ∧ (σ629.2.1 33 a = (x1 : Int)) ∧ (σ629.2.1 34 a = (x94 : Int)) ∧ (σ629.2.1 35 a = -1) ∧ (σ629.2.1 36 a = (x151 : Int)) ∧ (σ629.2.1 37 a = (x209 : Int)) ∧ (σ629.2.1 38 a = 0) ∧ (σ629.2.1 39 a = (x268 : Int)) ∧ (σ629.2.1 40 a = (x328 : Int)) ∧ (σ629.2.1 41 a = (x389 : Int)) ∧ (σ629.2.1 42 a = 0) ∧ (σ629.2.1 43 a = 0) ∧ (σ629.2.1 44 a = 0) ∧ (σ629.2.1 45 a = 0) ∧ (σ629.2.1 46 a = 0) ∧ (σ629.2.1 47 a = 0) ∧ (σ629.2.1 48 a = (x451 : Int)) ∧ (σ629.2.1 49 a = (x514 : Int)) ∧ (σ629.2.1 50 a = 0) ∧ (σ629.2.1 51 a = 0) ∧ (T628 x1 = (39, 0)) ∧ (T628 x94 = (94, 7)) ∧ (T628 x151 = (16, 256)) ∧ (T628 x209 = (17, 256)) ∧ (T628 x268 = (18, 256)) ∧ (T628 x328 = (19, 256)) ∧ (T628 x389 = (20, 256)) ∧ (T628 x451 = (21, 12)) ∧ (T628 x514 = (1, 8)) ∧ (T628 x578 = (31, 0)) ∧ NX 7 a T T628 ∧ NX 41 a T T628 ∧ CXJ S0 a 5 T T628 σ629 := ⟨_, _, rfl, rfl, (cx585.call ne580b w623 cd624 kp625 ga626 gb627 ne580z), ((kp625a.2.1 33 (by decide)).trans f597), ((kp625a.2.1 34 (by decide)).trans f598), ((kp625a.2.1 35 (by decide)).trans f599), ((kp625a.2.1 36 (by decide)).trans f600), ((kp625a.2.1 37 (by decide)).trans f601), ((kp625a.2.1 38 (by decide)).trans f602), ((kp625a.2.1 39 (by decide)).trans f603), ((kp625a.2.1 40 (by decide)).trans f604), ((kp625a.2.1 41 (by decide)).trans f605), ((kp625a.2.1 42 (by decide)).trans f606), ((kp625a.2.1 43 (by decide)).trans f607), ((kp625a.2.1 44 (by decide)).trans f608), ((kp625a.2.1 45 (by decide)).trans f609), ((kp625a.2.1 46 (by decide)).trans f610), ((kp625a.2.1 47 (by decide)).trans f611), ((kp625a.2.1 48 (by decide)).trans f612), ((kp625a.2.1 49 (by decide)).trans f613), ((kp625a.2.1 50 (by decide)).trans f614), ((kp625a.2.1 51 (by decide)).trans f615), ((kp625.1 x1 (by rw [o586]; decide) (ne_of o586 o595 (by decide))).1.trans o586), ((kp625.1 x94 (by rw [o587]; decide) (ne_of o587 o595 (by decide))).1.trans o587), ((kp625.1 x151 (by rw [o588]; decide) (ne_of o588 o595 (by decide))).1.trans o588), ((kp625.1 x209 (by rw [o589]; decide) (ne_of o589 o595 (by decide))).1.trans o589), ((kp625.1 x268 (by rw [o590]; decide) (ne_of o590 o595 (by decide))).1.trans o590), ((kp625.1 x328 (by rw [o591]; decide) (ne_of o591 o595 (by decide))).1.trans o591), ((kp625.1 x389 (by rw [o592]; decide) (ne_of o592 o595 (by decide))).1.trans o592), ((kp625.1 x451 (by rw [o593]; decide) (ne_of o593 o595 (by decide))).1.trans o593), ((kp625.1 x514 (by rw [o594]; decide) (ne_of o594 o595 (by decide))).1.trans o594), hr622, (nx616.call kp625 hr622 (by decide) hr622n7), (nx617.call kp625 hr622 (by decide) hr622n41), (CXJ.call cj596 cx585.1 cx585.2.1 cx585.2.2.2.1 ne580b kp625 (by rw [o595]; decide) hr622i hr622f)⟩
  rw [← eT630]
  rw [← eS631]
  show Tn _ _ 108 T628 σ629 [(1, .int (iI 0)), (0, .ref a)] [.ref x578, .int (iI 0), .ref x94] _
  clear cx585 cj596 f597 f598 f599 f600 f601 f602 f603 f604 f605 f606 f607 f608 f609 f610 f611 f612 f613 f614 f615 nx616 nx617 o586 o587 o588 o589 o590 o591 o592 o593 o594 o595
  refine tn_aastQ (z := 0) (v := x578) dX5_init_108 (by rw [o634]; decide) (show OBr T628 x578 1 from ⟨by rw [o642]; decide, by rw [o642]; decide, by rw [o642]; decide⟩) (by decide) (by rw [o634]; decide) (by rw [o634]; decide) ?_
  obtain ⟨σ665, eS667, cx668, f671, f672, f673, f674, f675, f676, f677, f678, f679, f680, f681, f682, f683, f684, f685, f686, f687, f688, f689, r669, cj670⟩ : ∃ (σ665 : MS), σ665 = (sA (1000 + x94) 0 (x578 : Int) σ629) ∧ CX a 5 (x578 :: K) 5342 20 T σ T628 σ665 ∧ (σ665.2.1 33 a = (x1 : Int)) ∧ (σ665.2.1 34 a = (x94 : Int)) ∧ (σ665.2.1 35 a = -1) ∧ (σ665.2.1 36 a = (x151 : Int)) ∧ (σ665.2.1 37 a = (x209 : Int)) ∧ (σ665.2.1 38 a = 0) ∧ (σ665.2.1 39 a = (x268 : Int)) ∧ (σ665.2.1 40 a = (x328 : Int)) ∧ (σ665.2.1 41 a = (x389 : Int)) ∧ (σ665.2.1 42 a = 0) ∧ (σ665.2.1 43 a = 0) ∧ (σ665.2.1 44 a = 0) ∧ (σ665.2.1 45 a = 0) ∧ (σ665.2.1 46 a = 0) ∧ (σ665.2.1 47 a = 0) ∧ (σ665.2.1 48 a = (x451 : Int)) ∧ (σ665.2.1 49 a = (x514 : Int)) ∧ (σ665.2.1 50 a = 0) ∧ (σ665.2.1 51 a = 0) ∧ (σ665.2.1 (1000 + x94) 0 = (x578 : Int)) ∧ CXJ S0 a 5 T T628 σ665 := ⟨_, rfl, (cx632.row (by rw [o634]; decide) ne96z), (rc_a (Or.inl (by decide)) f644), (rc_a (Or.inl (by decide)) f645), (rc_a (Or.inl (by decide)) f646), (rc_a (Or.inl (by decide)) f647), (rc_a (Or.inl (by decide)) f648), (rc_a (Or.inl (by decide)) f649), (rc_a (Or.inl (by decide)) f650), (rc_a (Or.inl (by decide)) f651), (rc_a (Or.inl (by decide)) f652), (rc_a (Or.inl (by decide)) f653), (rc_a (Or.inl (by decide)) f654), (rc_a (Or.inl (by decide)) f655), (rc_a (Or.inl (by decide)) f656), (rc_a (Or.inl (by decide)) f657), (rc_a (Or.inl (by decide)) f658), (rc_a (Or.inl (by decide)) f659), (rc_a (Or.inl (by decide)) f660), (rc_a (Or.inl (by decide)) f661), (rc_a (Or.inl (by decide)) f662), ra_eq, (CXJ.row cj643 cx632.2.1)⟩
  rw [← eS667]
  clear cx632 cj643 f644 f645 f646 f647 f648 f649 f650 f651 f652 f653 f654 f655 f656 f657 f658 f659 f660 f661 f662
  refine tn_iinc (q0 := 0) (L' := [(1, .int (iI 1)), (0, .ref a)]) dX5_init_109 rfl (by decide) rfl ?_
  refine tn_goto (tgt := 87) dX5_init_112 (by decide) ?_
  refine tn_iload_n dX5_init_87 rfl 0 rfl ?_
  refine tn_aload_n dX5_init_88 rfl 1 rfl ?_
  refine tn_getVr (ci := 5) (i := 1) (n := 34) (r := true) dX5_init_89 rfl lay_5 (by decide) fl5_20 (cx668.r (by decide)) rfl rfl ?_
  rw [f672, vl_ref rfl]
  refine tn_alen dX5_init_92 (fun P0 => ovC_q (by rw [o634]; decide)) rfl ?_
  rw [show (T628 x94).2 = 7 by rw [o634]]
  show Tn _ _ 93 T628 σ665 [(1, .int (iI 1)), (0, .ref a)] [.int (iI 7), .int (iI 1)] _
  refine tn_icmp_ge (tgt := 115) dX5_init_93 (by decide) ⟨by decide, by decide⟩ ⟨by decide, by decide⟩ (fun h => absurd h (by decide)) (fun _ => ?_)
  refine tn_aload_n dX5_init_96 rfl 1 rfl ?_
  refine tn_getVr (ci := 5) (i := 1) (n := 34) (r := true) dX5_init_97 rfl lay_5 (by decide) fl5_20 (cx668.r (by decide)) rfl rfl ?_
  rw [f672, vl_ref rfl]
  refine tn_iload_n dX5_init_100 rfl 0 rfl ?_
  refine tn_newO (ci := 1) (N := 12) tyX1 tyX1_ok dX5_init_101 rfl lay_1 cl5_18 ist_1 ini_1 df_1 rfl (by decide) hfd_1 (fun x690 hx691 => ?_)
  have ne692 := cx668.ne hx691
  have ne692z := (cx668.fresh hx691).resolve_right (fun e => ne692 e.symm)
  have ne692_x94 : x94 ≠ x690 := fun e => by rw [← e, o634] at hx691; exact absurd hx691 (by decide)
  have ne692d : ∀ j, j < 200 → (objS x690 (gh 12 σ665)).2.1 j (x690 : Int) = dfF j := fun j hj => objS_eq hj
  have ne692j := CXJ.new (T2 := (tT T628 x690 (80 + 1) 0)) (σ2 := (objS x690 (gh 12 σ665))) cj670 cx668.1 cx668.2.1 hx691 (by rw [tT_eq]; decide) (fun b9 e9 => tT_ne e9) (fun n9 c9 hn9 hc9 => by rw [objS_ne (by omega)]; rfl)
  have dd_x578_x690 : NE9 x578 x690 := fun e9 => by rw [← e9, o642] at hx691; exact absurd hx691 (by decide)
  obtain ⟨T693, σ694, eT695, eS696, cx697, f711, f712, f713, f714, f715, f716, f717, f718, f719, f720, f721, f722, f723, f724, f725, f726, f727, f728, f729, o698, o699, o700, o701, o702, o703, o704, o705, o706, o707, o708, nx730, nx731, r709, cj710⟩ : ∃ (T693 : CT) (σ694 : MS), T693 = (tT T628 x690 (80 + 1) 0) ∧ σ694 = (objS x690 (gh 12 σ665)) ∧ CX a 5 (x578 :: K) 5354 21 T σ T693 σ694 ∧ (σ694.2.1 33 a = (x1 : Int)) ∧ (σ694.2.1 34 a = (x94 : Int)) ∧ (σ694.2.1 35 a = -1) ∧ (σ694.2.1 36 a = (x151 : Int)) ∧ (σ694.2.1 37 a = (x209 : Int)) ∧ (σ694.2.1 38 a = 0) ∧ (σ694.2.1 39 a = (x268 : Int)) ∧ (σ694.2.1 40 a = (x328 : Int)) ∧ (σ694.2.1 41 a = (x389 : Int)) ∧ (σ694.2.1 42 a = 0) ∧ (σ694.2.1 43 a = 0) ∧ (σ694.2.1 44 a = 0) ∧ (σ694.2.1 45 a = 0) ∧ (σ694.2.1 46 a = 0) ∧ (σ694.2.1 47 a = 0) ∧ (σ694.2.1 48 a = (x451 : Int)) ∧ (σ694.2.1 49 a = (x514 : Int)) ∧ (σ694.2.1 50 a = 0) ∧ (σ694.2.1 51 a = 0) ∧ (T693 x1 = (39, 0)) ∧ (T693 x94 = (94, 7)) ∧ (T693 x151 = (16, 256)) ∧ (T693 x209 = (17, 256)) ∧ (T693 x268 = (18, 256)) ∧ (T693 x328 = (19, 256)) ∧ (T693 x389 = (20, 256)) ∧ (T693 x451 = (21, 12)) ∧ (T693 x514 = (1, 8)) ∧ (T693 x578 = (31, 0)) ∧ (T693 x690 = (81, 0)) ∧ NX 7 a T T693 ∧ NX 41 a T T693 ∧ (σ694.2.1 (1000 + x94) 0 = (x578 : Int)) ∧ CXJ S0 a 5 T T693 σ694 := ⟨_, _, rfl, rfl, (cx668.newO hx691 (by decide)), (by rw [objS_ne (by omega)]; exact f671), (by rw [objS_ne (by omega)]; exact f672), (by rw [objS_ne (by omega)]; exact f673), (by rw [objS_ne (by omega)]; exact f674), (by rw [objS_ne (by omega)]; exact f675), (by rw [objS_ne (by omega)]; exact f676), (by rw [objS_ne (by omega)]; exact f677), (by rw [objS_ne (by omega)]; exact f678), (by rw [objS_ne (by omega)]; exact f679), (by rw [objS_ne (by omega)]; exact f680), (by rw [objS_ne (by omega)]; exact f681), (by rw [objS_ne (by omega)]; exact f682), (by rw [objS_ne (by omega)]; exact f683), (by rw [objS_ne (by omega)]; exact f684), (by rw [objS_ne (by omega)]; exact f685), (by rw [objS_ne (by omega)]; exact f686), (by rw [objS_ne (by omega)]; exact f687), (by rw [objS_ne (by omega)]; exact f688), (by rw [objS_ne (by omega)]; exact f689), (tk_keep o633 (by decide) hx691), (tk_keep o634 (by decide) hx691), (tk_keep o635 (by decide) hx691), (tk_keep o636 (by decide) hx691), (tk_keep o637 (by decide) hx691), (tk_keep o638 (by decide) hx691), (tk_keep o639 (by decide) hx691), (tk_keep o640 (by decide) hx691), (tk_keep o641 (by decide) hx691), (tk_keep o642 (by decide) hx691), tT_eq, (nx663.mk9 (by decide)), (nx664.mk9 (by decide)), (by rw [objS_hi (by omega)]; exact r669), ne692j.1⟩
  rw [← eT695]
  rw [← eS696]
  rw [← eS696] at ne692d
  clear cx668 cj670 f671 f672 f673 f674 f675 f676 f677 f678 f679 f680 f681 f682 f683 f684 f685 f686 f687 f688 f689 nx663 nx664 o633 o634 o635 o636 o637 o638 o639 o640 o641 o642 r669
  refine tn_dup dX5_init_104 rfl ?_
  refine tn_callIN (M := m_X5_init) (pc := 105) (ix := 46) (M' := m_X1_init) (As := []) (rest := [.ref x690, .int (iI 1), .ref x94]) dX5_init_105 ok_X1_init rfl rfl im_X1_init nl5_46 np_X1_init rfl (Nat.le_of_ble_eq_true rfl) (Nat.le_of_ble_eq_true rfl) rfl (kj_X1_init_31 (d) (T := T693) (σ := σ694) (a := x690) (K := (x578 :: K))  o708 cx697.2.1 cx697.2.2.1 ne692d cj710.1 ) (fun r732 T733 σ734 gt735 hp => ?_)
  obtain ⟨rfl, hr736, w737, cd738, kp739, ga740, gb741, hr736i, hr736f, hr736n7, hr736n41⟩ := hp
  have ne692b : a ≠ x690 := ne692
  have kp739a := kp739.1 a (by rw [cx697.1]; decide) ne692b
  have kp739_x94 := kp739.1 x94 (by rw [o699]; decide) ne692_x94
  obtain ⟨T742, σ743, eT744, eS745, cx746, f760, f761, f762, f763, f764, f765, f766, f767, f768, f769, f770, f771, f772, f773, f774, f775, f776, f777, f778, o747, o748, o749, o750, o751, o752, o753, o754, o755, o756, o757, nx779, nx780, r758, cj759⟩ : ∃ (T742 : CT) (σ743 : MS), T742 = T733 ∧ σ743 = σ734 ∧ CX a 5 (x690 :: (x578 :: K)) 5767 28 T σ T742 σ743 ∧ (σ743.2.1 33 a = (x1 : Int)) ∧ (σ743.2.1 34 a = (x94 : Int)) ∧ (σ743.2.1 35 a = -1) ∧ (σ743.2.1 36 a = (x151 : Int)) ∧ (σ743.2.1 37 a = (x209 : Int)) ∧ (σ743.2.1 38 a = 0) ∧ (σ743.2.1 39 a = (x268 : Int)) ∧ (σ743.2.1 40 a = (x328 : Int)) ∧ (σ743.2.1 41 a = (x389 : Int)) ∧ (σ743.2.1 42 a = 0) ∧ (σ743.2.1 43 a = 0) ∧ (σ743.2.1 44 a = 0) ∧ (σ743.2.1 45 a = 0) ∧ (σ743.2.1 46 a = 0) ∧ (σ743.2.1 47 a = 0) ∧ (σ743.2.1 48 a = (x451 : Int)) ∧ (σ743.2.1 49 a = (x514 : Int)) ∧ (σ743.2.1 50 a = 0) ∧ (σ743.2.1 51 a = 0) ∧ (T742 x1 = (39, 0)) ∧ (T742 x94 = (94, 7)) ∧ (T742 x151 = (16, 256)) ∧ (T742 x209 = (17, 256)) ∧ (T742 x268 = (18, 256)) ∧ (T742 x328 = (19, 256)) ∧ (T742 x389 = (20, 256)) ∧ (T742 x451 = (21, 12)) ∧ (T742 x514 = (1, 8)) ∧ (T742 x578 = (31, 0)) ∧ (T742 x690 = (31, 0)) ∧ NX 7 a T T742 ∧ NX 41 a T T742 ∧ (σ743.2.1 (1000 + x94) 0 = (x578 : Int)) ∧ CXJ S0 a 5 T T742 σ743 := ⟨_, _, rfl, rfl, (cx697.call ne692b w737 cd738 kp739 ga740 gb741 ne692z), ((kp739a.2.1 33 (by decide)).trans f711), ((kp739a.2.1 34 (by decide)).trans f712), ((kp739a.2.1 35 (by decide)).trans f713), ((kp739a.2.1 36 (by decide)).trans f714), ((kp739a.2.1 37 (by decide)).trans f715), ((kp739a.2.1 38 (by decide)).trans f716), ((kp739a.2.1 39 (by decide)).trans f717), ((kp739a.2.1 40 (by decide)).trans f718), ((kp739a.2.1 41 (by decide)).trans f719), ((kp739a.2.1 42 (by decide)).trans f720), ((kp739a.2.1 43 (by decide)).trans f721), ((kp739a.2.1 44 (by decide)).trans f722), ((kp739a.2.1 45 (by decide)).trans f723), ((kp739a.2.1 46 (by decide)).trans f724), ((kp739a.2.1 47 (by decide)).trans f725), ((kp739a.2.1 48 (by decide)).trans f726), ((kp739a.2.1 49 (by decide)).trans f727), ((kp739a.2.1 50 (by decide)).trans f728), ((kp739a.2.1 51 (by decide)).trans f729), ((kp739.1 x1 (by rw [o698]; decide) (ne_of o698 o708 (by decide))).1.trans o698), ((kp739.1 x94 (by rw [o699]; decide) (ne_of o699 o708 (by decide))).1.trans o699), ((kp739.1 x151 (by rw [o700]; decide) (ne_of o700 o708 (by decide))).1.trans o700), ((kp739.1 x209 (by rw [o701]; decide) (ne_of o701 o708 (by decide))).1.trans o701), ((kp739.1 x268 (by rw [o702]; decide) (ne_of o702 o708 (by decide))).1.trans o702), ((kp739.1 x328 (by rw [o703]; decide) (ne_of o703 o708 (by decide))).1.trans o703), ((kp739.1 x389 (by rw [o704]; decide) (ne_of o704 o708 (by decide))).1.trans o704), ((kp739.1 x451 (by rw [o705]; decide) (ne_of o705 o708 (by decide))).1.trans o705), ((kp739.1 x514 (by rw [o706]; decide) (ne_of o706 o708 (by decide))).1.trans o706), ((kp739.1 x578 (by rw [o707]; decide) (ne_of o707 o708 (by decide))).1.trans o707), hr736, (nx730.call kp739 hr736 (by decide) hr736n7), (nx731.call kp739 hr736 (by decide) hr736n41), (by rw [kp739_x94.2.2]; exact r709), (CXJ.call cj710 cx697.1 cx697.2.1 cx697.2.2.2.1 ne692b kp739 (by rw [o708]; decide) hr736i hr736f)⟩
  rw [← eT744]
  rw [← eS745]
  show Tn _ _ 108 T742 σ743 [(1, .int (iI 1)), (0, .ref a)] [.ref x690, .int (iI 1), .ref x94] _
  clear cx697 cj710 f711 f712 f713 f714 f715 f716 f717 f718 f719 f720 f721 f722 f723 f724 f725 f726 f727 f728 f729 nx730 nx731 o698 o699 o700 o701 o702 o703 o704 o705 o706 o707 o708 r709
  refine tn_aastQ (z := 1) (v := x690) dX5_init_108 (by rw [o748]; decide) (show OBr T742 x690 1 from ⟨by rw [o757]; decide, by rw [o757]; decide, by rw [o757]; decide⟩) (by decide) (by rw [o748]; decide) (by rw [o748]; decide) ?_
  obtain ⟨σ781, eS783, cx784, f788, f789, f790, f791, f792, f793, f794, f795, f796, f797, f798, f799, f800, f801, f802, f803, f804, f805, f806, r785, r786, cj787⟩ : ∃ (σ781 : MS), σ781 = (sA (1000 + x94) 1 (x690 : Int) σ743) ∧ CX a 5 (x690 :: (x578 :: K)) 5767 28 T σ T742 σ781 ∧ (σ781.2.1 33 a = (x1 : Int)) ∧ (σ781.2.1 34 a = (x94 : Int)) ∧ (σ781.2.1 35 a = -1) ∧ (σ781.2.1 36 a = (x151 : Int)) ∧ (σ781.2.1 37 a = (x209 : Int)) ∧ (σ781.2.1 38 a = 0) ∧ (σ781.2.1 39 a = (x268 : Int)) ∧ (σ781.2.1 40 a = (x328 : Int)) ∧ (σ781.2.1 41 a = (x389 : Int)) ∧ (σ781.2.1 42 a = 0) ∧ (σ781.2.1 43 a = 0) ∧ (σ781.2.1 44 a = 0) ∧ (σ781.2.1 45 a = 0) ∧ (σ781.2.1 46 a = 0) ∧ (σ781.2.1 47 a = 0) ∧ (σ781.2.1 48 a = (x451 : Int)) ∧ (σ781.2.1 49 a = (x514 : Int)) ∧ (σ781.2.1 50 a = 0) ∧ (σ781.2.1 51 a = 0) ∧ (σ781.2.1 (1000 + x94) 0 = (x578 : Int)) ∧ (σ781.2.1 (1000 + x94) 1 = (x690 : Int)) ∧ CXJ S0 a 5 T T742 σ781 := ⟨_, rfl, (cx746.row (by rw [o748]; decide) ne96z), (rc_a (Or.inl (by decide)) f760), (rc_a (Or.inl (by decide)) f761), (rc_a (Or.inl (by decide)) f762), (rc_a (Or.inl (by decide)) f763), (rc_a (Or.inl (by decide)) f764), (rc_a (Or.inl (by decide)) f765), (rc_a (Or.inl (by decide)) f766), (rc_a (Or.inl (by decide)) f767), (rc_a (Or.inl (by decide)) f768), (rc_a (Or.inl (by decide)) f769), (rc_a (Or.inl (by decide)) f770), (rc_a (Or.inl (by decide)) f771), (rc_a (Or.inl (by decide)) f772), (rc_a (Or.inl (by decide)) f773), (rc_a (Or.inl (by decide)) f774), (rc_a (Or.inl (by decide)) f775), (rc_a (Or.inl (by decide)) f776), (rc_a (Or.inl (by decide)) f777), (rc_a (Or.inl (by decide)) f778), (ra_ne (by decide) r758), ra_eq, (CXJ.row cj759 cx746.2.1)⟩
  rw [← eS783]
  clear cx746 cj759 f760 f761 f762 f763 f764 f765 f766 f767 f768 f769 f770 f771 f772 f773 f774 f775 f776 f777 f778 r758
  refine tn_iinc (q0 := 0) (L' := [(1, .int (iI 2)), (0, .ref a)]) dX5_init_109 rfl (by decide) rfl ?_
  refine tn_goto (tgt := 87) dX5_init_112 (by decide) ?_
  refine tn_iload_n dX5_init_87 rfl 0 rfl ?_
  refine tn_aload_n dX5_init_88 rfl 1 rfl ?_
  refine tn_getVr (ci := 5) (i := 1) (n := 34) (r := true) dX5_init_89 rfl lay_5 (by decide) fl5_20 (cx784.r (by decide)) rfl rfl ?_
  rw [f789, vl_ref rfl]
  refine tn_alen dX5_init_92 (fun P0 => ovC_q (by rw [o748]; decide)) rfl ?_
  rw [show (T742 x94).2 = 7 by rw [o748]]
  show Tn _ _ 93 T742 σ781 [(1, .int (iI 2)), (0, .ref a)] [.int (iI 7), .int (iI 2)] _
  refine tn_icmp_ge (tgt := 115) dX5_init_93 (by decide) ⟨by decide, by decide⟩ ⟨by decide, by decide⟩ (fun h => absurd h (by decide)) (fun _ => ?_)
  refine tn_aload_n dX5_init_96 rfl 1 rfl ?_
  refine tn_getVr (ci := 5) (i := 1) (n := 34) (r := true) dX5_init_97 rfl lay_5 (by decide) fl5_20 (cx784.r (by decide)) rfl rfl ?_
  rw [f789, vl_ref rfl]
  refine tn_iload_n dX5_init_100 rfl 0 rfl ?_
  refine tn_newO (ci := 1) (N := 12) tyX1 tyX1_ok dX5_init_101 rfl lay_1 cl5_18 ist_1 ini_1 df_1 rfl (by decide) hfd_1 (fun x807 hx808 => ?_)
  have ne809 := cx784.ne hx808
  have ne809z := (cx784.fresh hx808).resolve_right (fun e => ne809 e.symm)
  have ne809_x94 : x94 ≠ x807 := fun e => by rw [← e, o748] at hx808; exact absurd hx808 (by decide)
  have ne809d : ∀ j, j < 200 → (objS x807 (gh 12 σ781)).2.1 j (x807 : Int) = dfF j := fun j hj => objS_eq hj
  have ne809j := CXJ.new (T2 := (tT T742 x807 (80 + 1) 0)) (σ2 := (objS x807 (gh 12 σ781))) cj787 cx784.1 cx784.2.1 hx808 (by rw [tT_eq]; decide) (fun b9 e9 => tT_ne e9) (fun n9 c9 hn9 hc9 => by rw [objS_ne (by omega)]; rfl)
  have dd_x578_x807 : NE9 x578 x807 := fun e9 => by rw [← e9, o756] at hx808; exact absurd hx808 (by decide)
  have dd_x690_x807 : NE9 x690 x807 := fun e9 => by rw [← e9, o757] at hx808; exact absurd hx808 (by decide)
  obtain ⟨T810, σ811, eT812, eS813, cx814, f830, f831, f832, f833, f834, f835, f836, f837, f838, f839, f840, f841, f842, f843, f844, f845, f846, f847, f848, o815, o816, o817, o818, o819, o820, o821, o822, o823, o824, o825, o826, nx849, nx850, r827, r828, cj829⟩ : ∃ (T810 : CT) (σ811 : MS), T810 = (tT T742 x807 (80 + 1) 0) ∧ σ811 = (objS x807 (gh 12 σ781)) ∧ CX a 5 (x690 :: (x578 :: K)) 5779 29 T σ T810 σ811 ∧ (σ811.2.1 33 a = (x1 : Int)) ∧ (σ811.2.1 34 a = (x94 : Int)) ∧ (σ811.2.1 35 a = -1) ∧ (σ811.2.1 36 a = (x151 : Int)) ∧ (σ811.2.1 37 a = (x209 : Int)) ∧ (σ811.2.1 38 a = 0) ∧ (σ811.2.1 39 a = (x268 : Int)) ∧ (σ811.2.1 40 a = (x328 : Int)) ∧ (σ811.2.1 41 a = (x389 : Int)) ∧ (σ811.2.1 42 a = 0) ∧ (σ811.2.1 43 a = 0) ∧ (σ811.2.1 44 a = 0) ∧ (σ811.2.1 45 a = 0) ∧ (σ811.2.1 46 a = 0) ∧ (σ811.2.1 47 a = 0) ∧ (σ811.2.1 48 a = (x451 : Int)) ∧ (σ811.2.1 49 a = (x514 : Int)) ∧ (σ811.2.1 50 a = 0) ∧ (σ811.2.1 51 a = 0) ∧ (T810 x1 = (39, 0)) ∧ (T810 x94 = (94, 7)) ∧ (T810 x151 = (16, 256)) ∧ (T810 x209 = (17, 256)) ∧ (T810 x268 = (18, 256)) ∧ (T810 x328 = (19, 256)) ∧ (T810 x389 = (20, 256)) ∧ (T810 x451 = (21, 12)) ∧ (T810 x514 = (1, 8)) ∧ (T810 x578 = (31, 0)) ∧ (T810 x690 = (31, 0)) ∧ (T810 x807 = (81, 0)) ∧ NX 7 a T T810 ∧ NX 41 a T T810 ∧ (σ811.2.1 (1000 + x94) 0 = (x578 : Int)) ∧ (σ811.2.1 (1000 + x94) 1 = (x690 : Int)) ∧ CXJ S0 a 5 T T810 σ811 := ⟨_, _, rfl, rfl, (cx784.newO hx808 (by decide)), (by rw [objS_ne (by omega)]; exact f788), (by rw [objS_ne (by omega)]; exact f789), (by rw [objS_ne (by omega)]; exact f790), (by rw [objS_ne (by omega)]; exact f791), (by rw [objS_ne (by omega)]; exact f792), (by rw [objS_ne (by omega)]; exact f793), (by rw [objS_ne (by omega)]; exact f794), (by rw [objS_ne (by omega)]; exact f795), (by rw [objS_ne (by omega)]; exact f796), (by rw [objS_ne (by omega)]; exact f797), (by rw [objS_ne (by omega)]; exact f798), (by rw [objS_ne (by omega)]; exact f799), (by rw [objS_ne (by omega)]; exact f800), (by rw [objS_ne (by omega)]; exact f801), (by rw [objS_ne (by omega)]; exact f802), (by rw [objS_ne (by omega)]; exact f803), (by rw [objS_ne (by omega)]; exact f804), (by rw [objS_ne (by omega)]; exact f805), (by rw [objS_ne (by omega)]; exact f806), (tk_keep o747 (by decide) hx808), (tk_keep o748 (by decide) hx808), (tk_keep o749 (by decide) hx808), (tk_keep o750 (by decide) hx808), (tk_keep o751 (by decide) hx808), (tk_keep o752 (by decide) hx808), (tk_keep o753 (by decide) hx808), (tk_keep o754 (by decide) hx808), (tk_keep o755 (by decide) hx808), (tk_keep o756 (by decide) hx808), (tk_keep o757 (by decide) hx808), tT_eq, (nx779.mk9 (by decide)), (nx780.mk9 (by decide)), (by rw [objS_hi (by omega)]; exact r785), (by rw [objS_hi (by omega)]; exact r786), ne809j.1⟩
  rw [← eT812]
  rw [← eS813]
  rw [← eS813] at ne809d
  clear cx784 cj787 f788 f789 f790 f791 f792 f793 f794 f795 f796 f797 f798 f799 f800 f801 f802 f803 f804 f805 f806 nx779 nx780 o747 o748 o749 o750 o751 o752 o753 o754 o755 o756 o757 r785 r786
  refine tn_dup dX5_init_104 rfl ?_
  refine tn_callIN (M := m_X5_init) (pc := 105) (ix := 46) (M' := m_X1_init) (As := []) (rest := [.ref x807, .int (iI 2), .ref x94]) dX5_init_105 ok_X1_init rfl rfl im_X1_init nl5_46 np_X1_init rfl (Nat.le_of_ble_eq_true rfl) (Nat.le_of_ble_eq_true rfl) rfl (kj_X1_init_31 (d) (T := T810) (σ := σ811) (a := x807) (K := (x690 :: (x578 :: K)))  o826 cx814.2.1 cx814.2.2.1 ne809d cj829.1 ) (fun r851 T852 σ853 gt854 hp => ?_)
  obtain ⟨rfl, hr855, w856, cd857, kp858, ga859, gb860, hr855i, hr855f, hr855n7, hr855n41⟩ := hp
  have ne809b : a ≠ x807 := ne809
  have kp858a := kp858.1 a (by rw [cx814.1]; decide) ne809b
  have kp858_x94 := kp858.1 x94 (by rw [o816]; decide) ne809_x94
  obtain ⟨T861, σ862, eT863, eS864, cx865, f881, f882, f883, f884, f885, f886, f887, f888, f889, f890, f891, f892, f893, f894, f895, f896, f897, f898, f899, o866, o867, o868, o869, o870, o871, o872, o873, o874, o875, o876, o877, nx900, nx901, r878, r879, cj880⟩ : ∃ (T861 : CT) (σ862 : MS), T861 = T852 ∧ σ862 = σ853 ∧ CX a 5 (x807 :: (x690 :: (x578 :: K))) 6192 36 T σ T861 σ862 ∧ (σ862.2.1 33 a = (x1 : Int)) ∧ (σ862.2.1 34 a = (x94 : Int)) ∧ (σ862.2.1 35 a = -1) ∧ (σ862.2.1 36 a = (x151 : Int)) ∧ (σ862.2.1 37 a = (x209 : Int)) ∧ (σ862.2.1 38 a = 0) ∧ (σ862.2.1 39 a = (x268 : Int)) ∧ (σ862.2.1 40 a = (x328 : Int)) ∧ (σ862.2.1 41 a = (x389 : Int)) ∧ (σ862.2.1 42 a = 0) ∧ (σ862.2.1 43 a = 0) ∧ (σ862.2.1 44 a = 0) ∧ (σ862.2.1 45 a = 0) ∧ (σ862.2.1 46 a = 0) ∧ (σ862.2.1 47 a = 0) ∧ (σ862.2.1 48 a = (x451 : Int)) ∧ (σ862.2.1 49 a = (x514 : Int)) ∧ (σ862.2.1 50 a = 0) ∧ (σ862.2.1 51 a = 0) ∧ (T861 x1 = (39, 0)) ∧ (T861 x94 = (94, 7)) ∧ (T861 x151 = (16, 256)) ∧ (T861 x209 = (17, 256)) ∧ (T861 x268 = (18, 256)) ∧ (T861 x328 = (19, 256)) ∧ (T861 x389 = (20, 256)) ∧ (T861 x451 = (21, 12)) ∧ (T861 x514 = (1, 8)) ∧ (T861 x578 = (31, 0)) ∧ (T861 x690 = (31, 0)) ∧ (T861 x807 = (31, 0)) ∧ NX 7 a T T861 ∧ NX 41 a T T861 ∧ (σ862.2.1 (1000 + x94) 0 = (x578 : Int)) ∧ (σ862.2.1 (1000 + x94) 1 = (x690 : Int)) ∧ CXJ S0 a 5 T T861 σ862 := ⟨_, _, rfl, rfl, (cx814.call ne809b w856 cd857 kp858 ga859 gb860 ne809z), ((kp858a.2.1 33 (by decide)).trans f830), ((kp858a.2.1 34 (by decide)).trans f831), ((kp858a.2.1 35 (by decide)).trans f832), ((kp858a.2.1 36 (by decide)).trans f833), ((kp858a.2.1 37 (by decide)).trans f834), ((kp858a.2.1 38 (by decide)).trans f835), ((kp858a.2.1 39 (by decide)).trans f836), ((kp858a.2.1 40 (by decide)).trans f837), ((kp858a.2.1 41 (by decide)).trans f838), ((kp858a.2.1 42 (by decide)).trans f839), ((kp858a.2.1 43 (by decide)).trans f840), ((kp858a.2.1 44 (by decide)).trans f841), ((kp858a.2.1 45 (by decide)).trans f842), ((kp858a.2.1 46 (by decide)).trans f843), ((kp858a.2.1 47 (by decide)).trans f844), ((kp858a.2.1 48 (by decide)).trans f845), ((kp858a.2.1 49 (by decide)).trans f846), ((kp858a.2.1 50 (by decide)).trans f847), ((kp858a.2.1 51 (by decide)).trans f848), ((kp858.1 x1 (by rw [o815]; decide) (ne_of o815 o826 (by decide))).1.trans o815), ((kp858.1 x94 (by rw [o816]; decide) (ne_of o816 o826 (by decide))).1.trans o816), ((kp858.1 x151 (by rw [o817]; decide) (ne_of o817 o826 (by decide))).1.trans o817), ((kp858.1 x209 (by rw [o818]; decide) (ne_of o818 o826 (by decide))).1.trans o818), ((kp858.1 x268 (by rw [o819]; decide) (ne_of o819 o826 (by decide))).1.trans o819), ((kp858.1 x328 (by rw [o820]; decide) (ne_of o820 o826 (by decide))).1.trans o820), ((kp858.1 x389 (by rw [o821]; decide) (ne_of o821 o826 (by decide))).1.trans o821), ((kp858.1 x451 (by rw [o822]; decide) (ne_of o822 o826 (by decide))).1.trans o822), ((kp858.1 x514 (by rw [o823]; decide) (ne_of o823 o826 (by decide))).1.trans o823), ((kp858.1 x578 (by rw [o824]; decide) (ne_of o824 o826 (by decide))).1.trans o824), ((kp858.1 x690 (by rw [o825]; decide) (ne_of o825 o826 (by decide))).1.trans o825), hr855, (nx849.call kp858 hr855 (by decide) hr855n7), (nx850.call kp858 hr855 (by decide) hr855n41), (by rw [kp858_x94.2.2]; exact r827), (by rw [kp858_x94.2.2]; exact r828), (CXJ.call cj829 cx814.1 cx814.2.1 cx814.2.2.2.1 ne809b kp858 (by rw [o826]; decide) hr855i hr855f)⟩
  rw [← eT863]
  rw [← eS864]
  show Tn _ _ 108 T861 σ862 [(1, .int (iI 2)), (0, .ref a)] [.ref x807, .int (iI 2), .ref x94] _
  clear cx814 cj829 f830 f831 f832 f833 f834 f835 f836 f837 f838 f839 f840 f841 f842 f843 f844 f845 f846 f847 f848 nx849 nx850 o815 o816 o817 o818 o819 o820 o821 o822 o823 o824 o825 o826 r827 r828
  refine tn_aastQ (z := 2) (v := x807) dX5_init_108 (by rw [o867]; decide) (show OBr T861 x807 1 from ⟨by rw [o877]; decide, by rw [o877]; decide, by rw [o877]; decide⟩) (by decide) (by rw [o867]; decide) (by rw [o867]; decide) ?_
  obtain ⟨σ902, eS904, cx905, f910, f911, f912, f913, f914, f915, f916, f917, f918, f919, f920, f921, f922, f923, f924, f925, f926, f927, f928, r906, r907, r908, cj909⟩ : ∃ (σ902 : MS), σ902 = (sA (1000 + x94) 2 (x807 : Int) σ862) ∧ CX a 5 (x807 :: (x690 :: (x578 :: K))) 6192 36 T σ T861 σ902 ∧ (σ902.2.1 33 a = (x1 : Int)) ∧ (σ902.2.1 34 a = (x94 : Int)) ∧ (σ902.2.1 35 a = -1) ∧ (σ902.2.1 36 a = (x151 : Int)) ∧ (σ902.2.1 37 a = (x209 : Int)) ∧ (σ902.2.1 38 a = 0) ∧ (σ902.2.1 39 a = (x268 : Int)) ∧ (σ902.2.1 40 a = (x328 : Int)) ∧ (σ902.2.1 41 a = (x389 : Int)) ∧ (σ902.2.1 42 a = 0) ∧ (σ902.2.1 43 a = 0) ∧ (σ902.2.1 44 a = 0) ∧ (σ902.2.1 45 a = 0) ∧ (σ902.2.1 46 a = 0) ∧ (σ902.2.1 47 a = 0) ∧ (σ902.2.1 48 a = (x451 : Int)) ∧ (σ902.2.1 49 a = (x514 : Int)) ∧ (σ902.2.1 50 a = 0) ∧ (σ902.2.1 51 a = 0) ∧ (σ902.2.1 (1000 + x94) 0 = (x578 : Int)) ∧ (σ902.2.1 (1000 + x94) 1 = (x690 : Int)) ∧ (σ902.2.1 (1000 + x94) 2 = (x807 : Int)) ∧ CXJ S0 a 5 T T861 σ902 := ⟨_, rfl, (cx865.row (by rw [o867]; decide) ne96z), (rc_a (Or.inl (by decide)) f881), (rc_a (Or.inl (by decide)) f882), (rc_a (Or.inl (by decide)) f883), (rc_a (Or.inl (by decide)) f884), (rc_a (Or.inl (by decide)) f885), (rc_a (Or.inl (by decide)) f886), (rc_a (Or.inl (by decide)) f887), (rc_a (Or.inl (by decide)) f888), (rc_a (Or.inl (by decide)) f889), (rc_a (Or.inl (by decide)) f890), (rc_a (Or.inl (by decide)) f891), (rc_a (Or.inl (by decide)) f892), (rc_a (Or.inl (by decide)) f893), (rc_a (Or.inl (by decide)) f894), (rc_a (Or.inl (by decide)) f895), (rc_a (Or.inl (by decide)) f896), (rc_a (Or.inl (by decide)) f897), (rc_a (Or.inl (by decide)) f898), (rc_a (Or.inl (by decide)) f899), (ra_ne (by decide) r878), (ra_ne (by decide) r879), ra_eq, (CXJ.row cj880 cx865.2.1)⟩
  rw [← eS904]
  clear cx865 cj880 f881 f882 f883 f884 f885 f886 f887 f888 f889 f890 f891 f892 f893 f894 f895 f896 f897 f898 f899 r878 r879
  refine tn_iinc (q0 := 0) (L' := [(1, .int (iI 3)), (0, .ref a)]) dX5_init_109 rfl (by decide) rfl ?_
  refine tn_goto (tgt := 87) dX5_init_112 (by decide) ?_
  refine tn_iload_n dX5_init_87 rfl 0 rfl ?_
  refine tn_aload_n dX5_init_88 rfl 1 rfl ?_
  refine tn_getVr (ci := 5) (i := 1) (n := 34) (r := true) dX5_init_89 rfl lay_5 (by decide) fl5_20 (cx905.r (by decide)) rfl rfl ?_
  rw [f911, vl_ref rfl]
  refine tn_alen dX5_init_92 (fun P0 => ovC_q (by rw [o867]; decide)) rfl ?_
  rw [show (T861 x94).2 = 7 by rw [o867]]
  show Tn _ _ 93 T861 σ902 [(1, .int (iI 3)), (0, .ref a)] [.int (iI 7), .int (iI 3)] _
  refine tn_icmp_ge (tgt := 115) dX5_init_93 (by decide) ⟨by decide, by decide⟩ ⟨by decide, by decide⟩ (fun h => absurd h (by decide)) (fun _ => ?_)
  refine tn_aload_n dX5_init_96 rfl 1 rfl ?_
  refine tn_getVr (ci := 5) (i := 1) (n := 34) (r := true) dX5_init_97 rfl lay_5 (by decide) fl5_20 (cx905.r (by decide)) rfl rfl ?_
  rw [f911, vl_ref rfl]
  refine tn_iload_n dX5_init_100 rfl 0 rfl ?_
  refine tn_newO (ci := 1) (N := 12) tyX1 tyX1_ok dX5_init_101 rfl lay_1 cl5_18 ist_1 ini_1 df_1 rfl (by decide) hfd_1 (fun x929 hx930 => ?_)
  have ne931 := cx905.ne hx930
  have ne931z := (cx905.fresh hx930).resolve_right (fun e => ne931 e.symm)
  have ne931_x94 : x94 ≠ x929 := fun e => by rw [← e, o867] at hx930; exact absurd hx930 (by decide)
  have ne931d : ∀ j, j < 200 → (objS x929 (gh 12 σ902)).2.1 j (x929 : Int) = dfF j := fun j hj => objS_eq hj
  have ne931j := CXJ.new (T2 := (tT T861 x929 (80 + 1) 0)) (σ2 := (objS x929 (gh 12 σ902))) cj909 cx905.1 cx905.2.1 hx930 (by rw [tT_eq]; decide) (fun b9 e9 => tT_ne e9) (fun n9 c9 hn9 hc9 => by rw [objS_ne (by omega)]; rfl)
  have dd_x578_x929 : NE9 x578 x929 := fun e9 => by rw [← e9, o875] at hx930; exact absurd hx930 (by decide)
  have dd_x690_x929 : NE9 x690 x929 := fun e9 => by rw [← e9, o876] at hx930; exact absurd hx930 (by decide)
  have dd_x807_x929 : NE9 x807 x929 := fun e9 => by rw [← e9, o877] at hx930; exact absurd hx930 (by decide)
  obtain ⟨T932, σ933, eT934, eS935, cx936, f954, f955, f956, f957, f958, f959, f960, f961, f962, f963, f964, f965, f966, f967, f968, f969, f970, f971, f972, o937, o938, o939, o940, o941, o942, o943, o944, o945, o946, o947, o948, o949, nx973, nx974, r950, r951, r952, cj953⟩ : ∃ (T932 : CT) (σ933 : MS), T932 = (tT T861 x929 (80 + 1) 0) ∧ σ933 = (objS x929 (gh 12 σ902)) ∧ CX a 5 (x807 :: (x690 :: (x578 :: K))) 6204 37 T σ T932 σ933 ∧ (σ933.2.1 33 a = (x1 : Int)) ∧ (σ933.2.1 34 a = (x94 : Int)) ∧ (σ933.2.1 35 a = -1) ∧ (σ933.2.1 36 a = (x151 : Int)) ∧ (σ933.2.1 37 a = (x209 : Int)) ∧ (σ933.2.1 38 a = 0) ∧ (σ933.2.1 39 a = (x268 : Int)) ∧ (σ933.2.1 40 a = (x328 : Int)) ∧ (σ933.2.1 41 a = (x389 : Int)) ∧ (σ933.2.1 42 a = 0) ∧ (σ933.2.1 43 a = 0) ∧ (σ933.2.1 44 a = 0) ∧ (σ933.2.1 45 a = 0) ∧ (σ933.2.1 46 a = 0) ∧ (σ933.2.1 47 a = 0) ∧ (σ933.2.1 48 a = (x451 : Int)) ∧ (σ933.2.1 49 a = (x514 : Int)) ∧ (σ933.2.1 50 a = 0) ∧ (σ933.2.1 51 a = 0) ∧ (T932 x1 = (39, 0)) ∧ (T932 x94 = (94, 7)) ∧ (T932 x151 = (16, 256)) ∧ (T932 x209 = (17, 256)) ∧ (T932 x268 = (18, 256)) ∧ (T932 x328 = (19, 256)) ∧ (T932 x389 = (20, 256)) ∧ (T932 x451 = (21, 12)) ∧ (T932 x514 = (1, 8)) ∧ (T932 x578 = (31, 0)) ∧ (T932 x690 = (31, 0)) ∧ (T932 x807 = (31, 0)) ∧ (T932 x929 = (81, 0)) ∧ NX 7 a T T932 ∧ NX 41 a T T932 ∧ (σ933.2.1 (1000 + x94) 0 = (x578 : Int)) ∧ (σ933.2.1 (1000 + x94) 1 = (x690 : Int)) ∧ (σ933.2.1 (1000 + x94) 2 = (x807 : Int)) ∧ CXJ S0 a 5 T T932 σ933 := ⟨_, _, rfl, rfl, (cx905.newO hx930 (by decide)), (by rw [objS_ne (by omega)]; exact f910), (by rw [objS_ne (by omega)]; exact f911), (by rw [objS_ne (by omega)]; exact f912), (by rw [objS_ne (by omega)]; exact f913), (by rw [objS_ne (by omega)]; exact f914), (by rw [objS_ne (by omega)]; exact f915), (by rw [objS_ne (by omega)]; exact f916), (by rw [objS_ne (by omega)]; exact f917), (by rw [objS_ne (by omega)]; exact f918), (by rw [objS_ne (by omega)]; exact f919), (by rw [objS_ne (by omega)]; exact f920), (by rw [objS_ne (by omega)]; exact f921), (by rw [objS_ne (by omega)]; exact f922), (by rw [objS_ne (by omega)]; exact f923), (by rw [objS_ne (by omega)]; exact f924), (by rw [objS_ne (by omega)]; exact f925), (by rw [objS_ne (by omega)]; exact f926), (by rw [objS_ne (by omega)]; exact f927), (by rw [objS_ne (by omega)]; exact f928), (tk_keep o866 (by decide) hx930), (tk_keep o867 (by decide) hx930), (tk_keep o868 (by decide) hx930), (tk_keep o869 (by decide) hx930), (tk_keep o870 (by decide) hx930), (tk_keep o871 (by decide) hx930), (tk_keep o872 (by decide) hx930), (tk_keep o873 (by decide) hx930), (tk_keep o874 (by decide) hx930), (tk_keep o875 (by decide) hx930), (tk_keep o876 (by decide) hx930), (tk_keep o877 (by decide) hx930), tT_eq, (nx900.mk9 (by decide)), (nx901.mk9 (by decide)), (by rw [objS_hi (by omega)]; exact r906), (by rw [objS_hi (by omega)]; exact r907), (by rw [objS_hi (by omega)]; exact r908), ne931j.1⟩
  rw [← eT934]
  rw [← eS935]
  rw [← eS935] at ne931d
  clear cx905 cj909 f910 f911 f912 f913 f914 f915 f916 f917 f918 f919 f920 f921 f922 f923 f924 f925 f926 f927 f928 nx900 nx901 o866 o867 o868 o869 o870 o871 o872 o873 o874 o875 o876 o877 r906 r907 r908
  refine tn_dup dX5_init_104 rfl ?_
  refine tn_callIN (M := m_X5_init) (pc := 105) (ix := 46) (M' := m_X1_init) (As := []) (rest := [.ref x929, .int (iI 3), .ref x94]) dX5_init_105 ok_X1_init rfl rfl im_X1_init nl5_46 np_X1_init rfl (Nat.le_of_ble_eq_true rfl) (Nat.le_of_ble_eq_true rfl) rfl (kj_X1_init_31 (d) (T := T932) (σ := σ933) (a := x929) (K := (x807 :: (x690 :: (x578 :: K))))  o949 cx936.2.1 cx936.2.2.1 ne931d cj953.1 ) (fun r975 T976 σ977 gt978 hp => ?_)
  obtain ⟨rfl, hr979, w980, cd981, kp982, ga983, gb984, hr979i, hr979f, hr979n7, hr979n41⟩ := hp
  have ne931b : a ≠ x929 := ne931
  have kp982a := kp982.1 a (by rw [cx936.1]; decide) ne931b
  have kp982_x94 := kp982.1 x94 (by rw [o938]; decide) ne931_x94
  obtain ⟨T985, σ986, eT987, eS988, cx989, f1007, f1008, f1009, f1010, f1011, f1012, f1013, f1014, f1015, f1016, f1017, f1018, f1019, f1020, f1021, f1022, f1023, f1024, f1025, o990, o991, o992, o993, o994, o995, o996, o997, o998, o999, o1000, o1001, o1002, nx1026, nx1027, r1003, r1004, r1005, cj1006⟩ : ∃ (T985 : CT) (σ986 : MS), T985 = T976 ∧ σ986 = σ977 ∧ CX a 5 (x929 :: (x807 :: (x690 :: (x578 :: K)))) 6617 44 T σ T985 σ986 ∧ (σ986.2.1 33 a = (x1 : Int)) ∧ (σ986.2.1 34 a = (x94 : Int)) ∧ (σ986.2.1 35 a = -1) ∧ (σ986.2.1 36 a = (x151 : Int)) ∧ (σ986.2.1 37 a = (x209 : Int)) ∧ (σ986.2.1 38 a = 0) ∧ (σ986.2.1 39 a = (x268 : Int)) ∧ (σ986.2.1 40 a = (x328 : Int)) ∧ (σ986.2.1 41 a = (x389 : Int)) ∧ (σ986.2.1 42 a = 0) ∧ (σ986.2.1 43 a = 0) ∧ (σ986.2.1 44 a = 0) ∧ (σ986.2.1 45 a = 0) ∧ (σ986.2.1 46 a = 0) ∧ (σ986.2.1 47 a = 0) ∧ (σ986.2.1 48 a = (x451 : Int)) ∧ (σ986.2.1 49 a = (x514 : Int)) ∧ (σ986.2.1 50 a = 0) ∧ (σ986.2.1 51 a = 0) ∧ (T985 x1 = (39, 0)) ∧ (T985 x94 = (94, 7)) ∧ (T985 x151 = (16, 256)) ∧ (T985 x209 = (17, 256)) ∧ (T985 x268 = (18, 256)) ∧ (T985 x328 = (19, 256)) ∧ (T985 x389 = (20, 256)) ∧ (T985 x451 = (21, 12)) ∧ (T985 x514 = (1, 8)) ∧ (T985 x578 = (31, 0)) ∧ (T985 x690 = (31, 0)) ∧ (T985 x807 = (31, 0)) ∧ (T985 x929 = (31, 0)) ∧ NX 7 a T T985 ∧ NX 41 a T T985 ∧ (σ986.2.1 (1000 + x94) 0 = (x578 : Int)) ∧ (σ986.2.1 (1000 + x94) 1 = (x690 : Int)) ∧ (σ986.2.1 (1000 + x94) 2 = (x807 : Int)) ∧ CXJ S0 a 5 T T985 σ986 := ⟨_, _, rfl, rfl, (cx936.call ne931b w980 cd981 kp982 ga983 gb984 ne931z), ((kp982a.2.1 33 (by decide)).trans f954), ((kp982a.2.1 34 (by decide)).trans f955), ((kp982a.2.1 35 (by decide)).trans f956), ((kp982a.2.1 36 (by decide)).trans f957), ((kp982a.2.1 37 (by decide)).trans f958), ((kp982a.2.1 38 (by decide)).trans f959), ((kp982a.2.1 39 (by decide)).trans f960), ((kp982a.2.1 40 (by decide)).trans f961), ((kp982a.2.1 41 (by decide)).trans f962), ((kp982a.2.1 42 (by decide)).trans f963), ((kp982a.2.1 43 (by decide)).trans f964), ((kp982a.2.1 44 (by decide)).trans f965), ((kp982a.2.1 45 (by decide)).trans f966), ((kp982a.2.1 46 (by decide)).trans f967), ((kp982a.2.1 47 (by decide)).trans f968), ((kp982a.2.1 48 (by decide)).trans f969), ((kp982a.2.1 49 (by decide)).trans f970), ((kp982a.2.1 50 (by decide)).trans f971), ((kp982a.2.1 51 (by decide)).trans f972), ((kp982.1 x1 (by rw [o937]; decide) (ne_of o937 o949 (by decide))).1.trans o937), ((kp982.1 x94 (by rw [o938]; decide) (ne_of o938 o949 (by decide))).1.trans o938), ((kp982.1 x151 (by rw [o939]; decide) (ne_of o939 o949 (by decide))).1.trans o939), ((kp982.1 x209 (by rw [o940]; decide) (ne_of o940 o949 (by decide))).1.trans o940), ((kp982.1 x268 (by rw [o941]; decide) (ne_of o941 o949 (by decide))).1.trans o941), ((kp982.1 x328 (by rw [o942]; decide) (ne_of o942 o949 (by decide))).1.trans o942), ((kp982.1 x389 (by rw [o943]; decide) (ne_of o943 o949 (by decide))).1.trans o943), ((kp982.1 x451 (by rw [o944]; decide) (ne_of o944 o949 (by decide))).1.trans o944), ((kp982.1 x514 (by rw [o945]; decide) (ne_of o945 o949 (by decide))).1.trans o945), ((kp982.1 x578 (by rw [o946]; decide) (ne_of o946 o949 (by decide))).1.trans o946), ((kp982.1 x690 (by rw [o947]; decide) (ne_of o947 o949 (by decide))).1.trans o947), ((kp982.1 x807 (by rw [o948]; decide) (ne_of o948 o949 (by decide))).1.trans o948), hr979, (nx973.call kp982 hr979 (by decide) hr979n7), (nx974.call kp982 hr979 (by decide) hr979n41), (by rw [kp982_x94.2.2]; exact r950), (by rw [kp982_x94.2.2]; exact r951), (by rw [kp982_x94.2.2]; exact r952), (CXJ.call cj953 cx936.1 cx936.2.1 cx936.2.2.2.1 ne931b kp982 (by rw [o949]; decide) hr979i hr979f)⟩
  rw [← eT987]
  rw [← eS988]
  show Tn _ _ 108 T985 σ986 [(1, .int (iI 3)), (0, .ref a)] [.ref x929, .int (iI 3), .ref x94] _
  clear cx936 cj953 f954 f955 f956 f957 f958 f959 f960 f961 f962 f963 f964 f965 f966 f967 f968 f969 f970 f971 f972 nx973 nx974 o937 o938 o939 o940 o941 o942 o943 o944 o945 o946 o947 o948 o949 r950 r951 r952
  refine tn_aastQ (z := 3) (v := x929) dX5_init_108 (by rw [o991]; decide) (show OBr T985 x929 1 from ⟨by rw [o1002]; decide, by rw [o1002]; decide, by rw [o1002]; decide⟩) (by decide) (by rw [o991]; decide) (by rw [o991]; decide) ?_
  obtain ⟨σ1028, eS1030, cx1031, f1037, f1038, f1039, f1040, f1041, f1042, f1043, f1044, f1045, f1046, f1047, f1048, f1049, f1050, f1051, f1052, f1053, f1054, f1055, r1032, r1033, r1034, r1035, cj1036⟩ : ∃ (σ1028 : MS), σ1028 = (sA (1000 + x94) 3 (x929 : Int) σ986) ∧ CX a 5 (x929 :: (x807 :: (x690 :: (x578 :: K)))) 6617 44 T σ T985 σ1028 ∧ (σ1028.2.1 33 a = (x1 : Int)) ∧ (σ1028.2.1 34 a = (x94 : Int)) ∧ (σ1028.2.1 35 a = -1) ∧ (σ1028.2.1 36 a = (x151 : Int)) ∧ (σ1028.2.1 37 a = (x209 : Int)) ∧ (σ1028.2.1 38 a = 0) ∧ (σ1028.2.1 39 a = (x268 : Int)) ∧ (σ1028.2.1 40 a = (x328 : Int)) ∧ (σ1028.2.1 41 a = (x389 : Int)) ∧ (σ1028.2.1 42 a = 0) ∧ (σ1028.2.1 43 a = 0) ∧ (σ1028.2.1 44 a = 0) ∧ (σ1028.2.1 45 a = 0) ∧ (σ1028.2.1 46 a = 0) ∧ (σ1028.2.1 47 a = 0) ∧ (σ1028.2.1 48 a = (x451 : Int)) ∧ (σ1028.2.1 49 a = (x514 : Int)) ∧ (σ1028.2.1 50 a = 0) ∧ (σ1028.2.1 51 a = 0) ∧ (σ1028.2.1 (1000 + x94) 0 = (x578 : Int)) ∧ (σ1028.2.1 (1000 + x94) 1 = (x690 : Int)) ∧ (σ1028.2.1 (1000 + x94) 2 = (x807 : Int)) ∧ (σ1028.2.1 (1000 + x94) 3 = (x929 : Int)) ∧ CXJ S0 a 5 T T985 σ1028 := ⟨_, rfl, (cx989.row (by rw [o991]; decide) ne96z), (rc_a (Or.inl (by decide)) f1007), (rc_a (Or.inl (by decide)) f1008), (rc_a (Or.inl (by decide)) f1009), (rc_a (Or.inl (by decide)) f1010), (rc_a (Or.inl (by decide)) f1011), (rc_a (Or.inl (by decide)) f1012), (rc_a (Or.inl (by decide)) f1013), (rc_a (Or.inl (by decide)) f1014), (rc_a (Or.inl (by decide)) f1015), (rc_a (Or.inl (by decide)) f1016), (rc_a (Or.inl (by decide)) f1017), (rc_a (Or.inl (by decide)) f1018), (rc_a (Or.inl (by decide)) f1019), (rc_a (Or.inl (by decide)) f1020), (rc_a (Or.inl (by decide)) f1021), (rc_a (Or.inl (by decide)) f1022), (rc_a (Or.inl (by decide)) f1023), (rc_a (Or.inl (by decide)) f1024), (rc_a (Or.inl (by decide)) f1025), (ra_ne (by decide) r1003), (ra_ne (by decide) r1004), (ra_ne (by decide) r1005), ra_eq, (CXJ.row cj1006 cx989.2.1)⟩
  rw [← eS1030]
  clear cx989 cj1006 f1007 f1008 f1009 f1010 f1011 f1012 f1013 f1014 f1015 f1016 f1017 f1018 f1019 f1020 f1021 f1022 f1023 f1024 f1025 r1003 r1004 r1005
  refine tn_iinc (q0 := 0) (L' := [(1, .int (iI 4)), (0, .ref a)]) dX5_init_109 rfl (by decide) rfl ?_
  refine tn_goto (tgt := 87) dX5_init_112 (by decide) ?_
  refine tn_iload_n dX5_init_87 rfl 0 rfl ?_
  refine tn_aload_n dX5_init_88 rfl 1 rfl ?_
  refine tn_getVr (ci := 5) (i := 1) (n := 34) (r := true) dX5_init_89 rfl lay_5 (by decide) fl5_20 (cx1031.r (by decide)) rfl rfl ?_
  rw [f1038, vl_ref rfl]
  refine tn_alen dX5_init_92 (fun P0 => ovC_q (by rw [o991]; decide)) rfl ?_
  rw [show (T985 x94).2 = 7 by rw [o991]]
  show Tn _ _ 93 T985 σ1028 [(1, .int (iI 4)), (0, .ref a)] [.int (iI 7), .int (iI 4)] _
  refine tn_icmp_ge (tgt := 115) dX5_init_93 (by decide) ⟨by decide, by decide⟩ ⟨by decide, by decide⟩ (fun h => absurd h (by decide)) (fun _ => ?_)
  refine tn_aload_n dX5_init_96 rfl 1 rfl ?_
  refine tn_getVr (ci := 5) (i := 1) (n := 34) (r := true) dX5_init_97 rfl lay_5 (by decide) fl5_20 (cx1031.r (by decide)) rfl rfl ?_
  rw [f1038, vl_ref rfl]
  refine tn_iload_n dX5_init_100 rfl 0 rfl ?_
  refine tn_newO (ci := 1) (N := 12) tyX1 tyX1_ok dX5_init_101 rfl lay_1 cl5_18 ist_1 ini_1 df_1 rfl (by decide) hfd_1 (fun x1056 hx1057 => ?_)
  have ne1058 := cx1031.ne hx1057
  have ne1058z := (cx1031.fresh hx1057).resolve_right (fun e => ne1058 e.symm)
  have ne1058_x94 : x94 ≠ x1056 := fun e => by rw [← e, o991] at hx1057; exact absurd hx1057 (by decide)
  have ne1058d : ∀ j, j < 200 → (objS x1056 (gh 12 σ1028)).2.1 j (x1056 : Int) = dfF j := fun j hj => objS_eq hj
  have ne1058j := CXJ.new (T2 := (tT T985 x1056 (80 + 1) 0)) (σ2 := (objS x1056 (gh 12 σ1028))) cj1036 cx1031.1 cx1031.2.1 hx1057 (by rw [tT_eq]; decide) (fun b9 e9 => tT_ne e9) (fun n9 c9 hn9 hc9 => by rw [objS_ne (by omega)]; rfl)
  have dd_x578_x1056 : NE9 x578 x1056 := fun e9 => by rw [← e9, o999] at hx1057; exact absurd hx1057 (by decide)
  have dd_x690_x1056 : NE9 x690 x1056 := fun e9 => by rw [← e9, o1000] at hx1057; exact absurd hx1057 (by decide)
  have dd_x807_x1056 : NE9 x807 x1056 := fun e9 => by rw [← e9, o1001] at hx1057; exact absurd hx1057 (by decide)
  have dd_x929_x1056 : NE9 x929 x1056 := fun e9 => by rw [← e9, o1002] at hx1057; exact absurd hx1057 (by decide)
  obtain ⟨T1059, σ1060, eT1061, eS1062, cx1063, f1083, f1084, f1085, f1086, f1087, f1088, f1089, f1090, f1091, f1092, f1093, f1094, f1095, f1096, f1097, f1098, f1099, f1100, f1101, o1064, o1065, o1066, o1067, o1068, o1069, o1070, o1071, o1072, o1073, o1074, o1075, o1076, o1077, nx1102, nx1103, r1078, r1079, r1080, r1081, cj1082⟩ : ∃ (T1059 : CT) (σ1060 : MS), T1059 = (tT T985 x1056 (80 + 1) 0) ∧ σ1060 = (objS x1056 (gh 12 σ1028)) ∧ CX a 5 (x929 :: (x807 :: (x690 :: (x578 :: K)))) 6629 45 T σ T1059 σ1060 ∧ (σ1060.2.1 33 a = (x1 : Int)) ∧ (σ1060.2.1 34 a = (x94 : Int)) ∧ (σ1060.2.1 35 a = -1) ∧ (σ1060.2.1 36 a = (x151 : Int)) ∧ (σ1060.2.1 37 a = (x209 : Int)) ∧ (σ1060.2.1 38 a = 0) ∧ (σ1060.2.1 39 a = (x268 : Int)) ∧ (σ1060.2.1 40 a = (x328 : Int)) ∧ (σ1060.2.1 41 a = (x389 : Int)) ∧ (σ1060.2.1 42 a = 0) ∧ (σ1060.2.1 43 a = 0) ∧ (σ1060.2.1 44 a = 0) ∧ (σ1060.2.1 45 a = 0) ∧ (σ1060.2.1 46 a = 0) ∧ (σ1060.2.1 47 a = 0) ∧ (σ1060.2.1 48 a = (x451 : Int)) ∧ (σ1060.2.1 49 a = (x514 : Int)) ∧ (σ1060.2.1 50 a = 0) ∧ (σ1060.2.1 51 a = 0) ∧ (T1059 x1 = (39, 0)) ∧ (T1059 x94 = (94, 7)) ∧ (T1059 x151 = (16, 256)) ∧ (T1059 x209 = (17, 256)) ∧ (T1059 x268 = (18, 256)) ∧ (T1059 x328 = (19, 256)) ∧ (T1059 x389 = (20, 256)) ∧ (T1059 x451 = (21, 12)) ∧ (T1059 x514 = (1, 8)) ∧ (T1059 x578 = (31, 0)) ∧ (T1059 x690 = (31, 0)) ∧ (T1059 x807 = (31, 0)) ∧ (T1059 x929 = (31, 0)) ∧ (T1059 x1056 = (81, 0)) ∧ NX 7 a T T1059 ∧ NX 41 a T T1059 ∧ (σ1060.2.1 (1000 + x94) 0 = (x578 : Int)) ∧ (σ1060.2.1 (1000 + x94) 1 = (x690 : Int)) ∧ (σ1060.2.1 (1000 + x94) 2 = (x807 : Int)) ∧ (σ1060.2.1 (1000 + x94) 3 = (x929 : Int)) ∧ CXJ S0 a 5 T T1059 σ1060 := ⟨_, _, rfl, rfl, (cx1031.newO hx1057 (by decide)), (by rw [objS_ne (by omega)]; exact f1037), (by rw [objS_ne (by omega)]; exact f1038), (by rw [objS_ne (by omega)]; exact f1039), (by rw [objS_ne (by omega)]; exact f1040), (by rw [objS_ne (by omega)]; exact f1041), (by rw [objS_ne (by omega)]; exact f1042), (by rw [objS_ne (by omega)]; exact f1043), (by rw [objS_ne (by omega)]; exact f1044), (by rw [objS_ne (by omega)]; exact f1045), (by rw [objS_ne (by omega)]; exact f1046), (by rw [objS_ne (by omega)]; exact f1047), (by rw [objS_ne (by omega)]; exact f1048), (by rw [objS_ne (by omega)]; exact f1049), (by rw [objS_ne (by omega)]; exact f1050), (by rw [objS_ne (by omega)]; exact f1051), (by rw [objS_ne (by omega)]; exact f1052), (by rw [objS_ne (by omega)]; exact f1053), (by rw [objS_ne (by omega)]; exact f1054), (by rw [objS_ne (by omega)]; exact f1055), (tk_keep o990 (by decide) hx1057), (tk_keep o991 (by decide) hx1057), (tk_keep o992 (by decide) hx1057), (tk_keep o993 (by decide) hx1057), (tk_keep o994 (by decide) hx1057), (tk_keep o995 (by decide) hx1057), (tk_keep o996 (by decide) hx1057), (tk_keep o997 (by decide) hx1057), (tk_keep o998 (by decide) hx1057), (tk_keep o999 (by decide) hx1057), (tk_keep o1000 (by decide) hx1057), (tk_keep o1001 (by decide) hx1057), (tk_keep o1002 (by decide) hx1057), tT_eq, (nx1026.mk9 (by decide)), (nx1027.mk9 (by decide)), (by rw [objS_hi (by omega)]; exact r1032), (by rw [objS_hi (by omega)]; exact r1033), (by rw [objS_hi (by omega)]; exact r1034), (by rw [objS_hi (by omega)]; exact r1035), ne1058j.1⟩
  rw [← eT1061]
  rw [← eS1062]
  rw [← eS1062] at ne1058d
  clear cx1031 cj1036 f1037 f1038 f1039 f1040 f1041 f1042 f1043 f1044 f1045 f1046 f1047 f1048 f1049 f1050 f1051 f1052 f1053 f1054 f1055 nx1026 nx1027 o990 o991 o992 o993 o994 o995 o996 o997 o998 o999 o1000 o1001 o1002 r1032 r1033 r1034 r1035
  refine tn_dup dX5_init_104 rfl ?_
  refine tn_callIN (M := m_X5_init) (pc := 105) (ix := 46) (M' := m_X1_init) (As := []) (rest := [.ref x1056, .int (iI 4), .ref x94]) dX5_init_105 ok_X1_init rfl rfl im_X1_init nl5_46 np_X1_init rfl (Nat.le_of_ble_eq_true rfl) (Nat.le_of_ble_eq_true rfl) rfl (kj_X1_init_31 (d) (T := T1059) (σ := σ1060) (a := x1056) (K := (x929 :: (x807 :: (x690 :: (x578 :: K)))))  o1077 cx1063.2.1 cx1063.2.2.1 ne1058d cj1082.1 ) (fun r1104 T1105 σ1106 gt1107 hp => ?_)
  obtain ⟨rfl, hr1108, w1109, cd1110, kp1111, ga1112, gb1113, hr1108i, hr1108f, hr1108n7, hr1108n41⟩ := hp
  have ne1058b : a ≠ x1056 := ne1058
  have kp1111a := kp1111.1 a (by rw [cx1063.1]; decide) ne1058b
  have kp1111_x94 := kp1111.1 x94 (by rw [o1065]; decide) ne1058_x94
  obtain ⟨T1114, σ1115, eT1116, eS1117, cx1118, f1138, f1139, f1140, f1141, f1142, f1143, f1144, f1145, f1146, f1147, f1148, f1149, f1150, f1151, f1152, f1153, f1154, f1155, f1156, o1119, o1120, o1121, o1122, o1123, o1124, o1125, o1126, o1127, o1128, o1129, o1130, o1131, o1132, nx1157, nx1158, r1133, r1134, r1135, r1136, cj1137⟩ : ∃ (T1114 : CT) (σ1115 : MS), T1114 = T1105 ∧ σ1115 = σ1106 ∧ CX a 5 (x1056 :: (x929 :: (x807 :: (x690 :: (x578 :: K))))) 7042 52 T σ T1114 σ1115 ∧ (σ1115.2.1 33 a = (x1 : Int)) ∧ (σ1115.2.1 34 a = (x94 : Int)) ∧ (σ1115.2.1 35 a = -1) ∧ (σ1115.2.1 36 a = (x151 : Int)) ∧ (σ1115.2.1 37 a = (x209 : Int)) ∧ (σ1115.2.1 38 a = 0) ∧ (σ1115.2.1 39 a = (x268 : Int)) ∧ (σ1115.2.1 40 a = (x328 : Int)) ∧ (σ1115.2.1 41 a = (x389 : Int)) ∧ (σ1115.2.1 42 a = 0) ∧ (σ1115.2.1 43 a = 0) ∧ (σ1115.2.1 44 a = 0) ∧ (σ1115.2.1 45 a = 0) ∧ (σ1115.2.1 46 a = 0) ∧ (σ1115.2.1 47 a = 0) ∧ (σ1115.2.1 48 a = (x451 : Int)) ∧ (σ1115.2.1 49 a = (x514 : Int)) ∧ (σ1115.2.1 50 a = 0) ∧ (σ1115.2.1 51 a = 0) ∧ (T1114 x1 = (39, 0)) ∧ (T1114 x94 = (94, 7)) ∧ (T1114 x151 = (16, 256)) ∧ (T1114 x209 = (17, 256)) ∧ (T1114 x268 = (18, 256)) ∧ (T1114 x328 = (19, 256)) ∧ (T1114 x389 = (20, 256)) ∧ (T1114 x451 = (21, 12)) ∧ (T1114 x514 = (1, 8)) ∧ (T1114 x578 = (31, 0)) ∧ (T1114 x690 = (31, 0)) ∧ (T1114 x807 = (31, 0)) ∧ (T1114 x929 = (31, 0)) ∧ (T1114 x1056 = (31, 0)) ∧ NX 7 a T T1114 ∧ NX 41 a T T1114 ∧ (σ1115.2.1 (1000 + x94) 0 = (x578 : Int)) ∧ (σ1115.2.1 (1000 + x94) 1 = (x690 : Int)) ∧ (σ1115.2.1 (1000 + x94) 2 = (x807 : Int)) ∧ (σ1115.2.1 (1000 + x94) 3 = (x929 : Int)) ∧ CXJ S0 a 5 T T1114 σ1115 := ⟨_, _, rfl, rfl, (cx1063.call ne1058b w1109 cd1110 kp1111 ga1112 gb1113 ne1058z), ((kp1111a.2.1 33 (by decide)).trans f1083), ((kp1111a.2.1 34 (by decide)).trans f1084), ((kp1111a.2.1 35 (by decide)).trans f1085), ((kp1111a.2.1 36 (by decide)).trans f1086), ((kp1111a.2.1 37 (by decide)).trans f1087), ((kp1111a.2.1 38 (by decide)).trans f1088), ((kp1111a.2.1 39 (by decide)).trans f1089), ((kp1111a.2.1 40 (by decide)).trans f1090), ((kp1111a.2.1 41 (by decide)).trans f1091), ((kp1111a.2.1 42 (by decide)).trans f1092), ((kp1111a.2.1 43 (by decide)).trans f1093), ((kp1111a.2.1 44 (by decide)).trans f1094), ((kp1111a.2.1 45 (by decide)).trans f1095), ((kp1111a.2.1 46 (by decide)).trans f1096), ((kp1111a.2.1 47 (by decide)).trans f1097), ((kp1111a.2.1 48 (by decide)).trans f1098), ((kp1111a.2.1 49 (by decide)).trans f1099), ((kp1111a.2.1 50 (by decide)).trans f1100), ((kp1111a.2.1 51 (by decide)).trans f1101), ((kp1111.1 x1 (by rw [o1064]; decide) (ne_of o1064 o1077 (by decide))).1.trans o1064), ((kp1111.1 x94 (by rw [o1065]; decide) (ne_of o1065 o1077 (by decide))).1.trans o1065), ((kp1111.1 x151 (by rw [o1066]; decide) (ne_of o1066 o1077 (by decide))).1.trans o1066), ((kp1111.1 x209 (by rw [o1067]; decide) (ne_of o1067 o1077 (by decide))).1.trans o1067), ((kp1111.1 x268 (by rw [o1068]; decide) (ne_of o1068 o1077 (by decide))).1.trans o1068), ((kp1111.1 x328 (by rw [o1069]; decide) (ne_of o1069 o1077 (by decide))).1.trans o1069), ((kp1111.1 x389 (by rw [o1070]; decide) (ne_of o1070 o1077 (by decide))).1.trans o1070), ((kp1111.1 x451 (by rw [o1071]; decide) (ne_of o1071 o1077 (by decide))).1.trans o1071), ((kp1111.1 x514 (by rw [o1072]; decide) (ne_of o1072 o1077 (by decide))).1.trans o1072), ((kp1111.1 x578 (by rw [o1073]; decide) (ne_of o1073 o1077 (by decide))).1.trans o1073), ((kp1111.1 x690 (by rw [o1074]; decide) (ne_of o1074 o1077 (by decide))).1.trans o1074), ((kp1111.1 x807 (by rw [o1075]; decide) (ne_of o1075 o1077 (by decide))).1.trans o1075), ((kp1111.1 x929 (by rw [o1076]; decide) (ne_of o1076 o1077 (by decide))).1.trans o1076), hr1108, (nx1102.call kp1111 hr1108 (by decide) hr1108n7), (nx1103.call kp1111 hr1108 (by decide) hr1108n41), (by rw [kp1111_x94.2.2]; exact r1078), (by rw [kp1111_x94.2.2]; exact r1079), (by rw [kp1111_x94.2.2]; exact r1080), (by rw [kp1111_x94.2.2]; exact r1081), (CXJ.call cj1082 cx1063.1 cx1063.2.1 cx1063.2.2.2.1 ne1058b kp1111 (by rw [o1077]; decide) hr1108i hr1108f)⟩
  rw [← eT1116]
  rw [← eS1117]
  show Tn _ _ 108 T1114 σ1115 [(1, .int (iI 4)), (0, .ref a)] [.ref x1056, .int (iI 4), .ref x94] _
  clear cx1063 cj1082 f1083 f1084 f1085 f1086 f1087 f1088 f1089 f1090 f1091 f1092 f1093 f1094 f1095 f1096 f1097 f1098 f1099 f1100 f1101 nx1102 nx1103 o1064 o1065 o1066 o1067 o1068 o1069 o1070 o1071 o1072 o1073 o1074 o1075 o1076 o1077 r1078 r1079 r1080 r1081
  refine tn_aastQ (z := 4) (v := x1056) dX5_init_108 (by rw [o1120]; decide) (show OBr T1114 x1056 1 from ⟨by rw [o1132]; decide, by rw [o1132]; decide, by rw [o1132]; decide⟩) (by decide) (by rw [o1120]; decide) (by rw [o1120]; decide) ?_
  obtain ⟨σ1159, eS1161, cx1162, f1169, f1170, f1171, f1172, f1173, f1174, f1175, f1176, f1177, f1178, f1179, f1180, f1181, f1182, f1183, f1184, f1185, f1186, f1187, r1163, r1164, r1165, r1166, r1167, cj1168⟩ : ∃ (σ1159 : MS), σ1159 = (sA (1000 + x94) 4 (x1056 : Int) σ1115) ∧ CX a 5 (x1056 :: (x929 :: (x807 :: (x690 :: (x578 :: K))))) 7042 52 T σ T1114 σ1159 ∧ (σ1159.2.1 33 a = (x1 : Int)) ∧ (σ1159.2.1 34 a = (x94 : Int)) ∧ (σ1159.2.1 35 a = -1) ∧ (σ1159.2.1 36 a = (x151 : Int)) ∧ (σ1159.2.1 37 a = (x209 : Int)) ∧ (σ1159.2.1 38 a = 0) ∧ (σ1159.2.1 39 a = (x268 : Int)) ∧ (σ1159.2.1 40 a = (x328 : Int)) ∧ (σ1159.2.1 41 a = (x389 : Int)) ∧ (σ1159.2.1 42 a = 0) ∧ (σ1159.2.1 43 a = 0) ∧ (σ1159.2.1 44 a = 0) ∧ (σ1159.2.1 45 a = 0) ∧ (σ1159.2.1 46 a = 0) ∧ (σ1159.2.1 47 a = 0) ∧ (σ1159.2.1 48 a = (x451 : Int)) ∧ (σ1159.2.1 49 a = (x514 : Int)) ∧ (σ1159.2.1 50 a = 0) ∧ (σ1159.2.1 51 a = 0) ∧ (σ1159.2.1 (1000 + x94) 0 = (x578 : Int)) ∧ (σ1159.2.1 (1000 + x94) 1 = (x690 : Int)) ∧ (σ1159.2.1 (1000 + x94) 2 = (x807 : Int)) ∧ (σ1159.2.1 (1000 + x94) 3 = (x929 : Int)) ∧ (σ1159.2.1 (1000 + x94) 4 = (x1056 : Int)) ∧ CXJ S0 a 5 T T1114 σ1159 := ⟨_, rfl, (cx1118.row (by rw [o1120]; decide) ne96z), (rc_a (Or.inl (by decide)) f1138), (rc_a (Or.inl (by decide)) f1139), (rc_a (Or.inl (by decide)) f1140), (rc_a (Or.inl (by decide)) f1141), (rc_a (Or.inl (by decide)) f1142), (rc_a (Or.inl (by decide)) f1143), (rc_a (Or.inl (by decide)) f1144), (rc_a (Or.inl (by decide)) f1145), (rc_a (Or.inl (by decide)) f1146), (rc_a (Or.inl (by decide)) f1147), (rc_a (Or.inl (by decide)) f1148), (rc_a (Or.inl (by decide)) f1149), (rc_a (Or.inl (by decide)) f1150), (rc_a (Or.inl (by decide)) f1151), (rc_a (Or.inl (by decide)) f1152), (rc_a (Or.inl (by decide)) f1153), (rc_a (Or.inl (by decide)) f1154), (rc_a (Or.inl (by decide)) f1155), (rc_a (Or.inl (by decide)) f1156), (ra_ne (by decide) r1133), (ra_ne (by decide) r1134), (ra_ne (by decide) r1135), (ra_ne (by decide) r1136), ra_eq, (CXJ.row cj1137 cx1118.2.1)⟩
  rw [← eS1161]
  clear cx1118 cj1137 f1138 f1139 f1140 f1141 f1142 f1143 f1144 f1145 f1146 f1147 f1148 f1149 f1150 f1151 f1152 f1153 f1154 f1155 f1156 r1133 r1134 r1135 r1136
  refine tn_iinc (q0 := 0) (L' := [(1, .int (iI 5)), (0, .ref a)]) dX5_init_109 rfl (by decide) rfl ?_
  refine tn_goto (tgt := 87) dX5_init_112 (by decide) ?_
  refine tn_iload_n dX5_init_87 rfl 0 rfl ?_
  refine tn_aload_n dX5_init_88 rfl 1 rfl ?_
  refine tn_getVr (ci := 5) (i := 1) (n := 34) (r := true) dX5_init_89 rfl lay_5 (by decide) fl5_20 (cx1162.r (by decide)) rfl rfl ?_
  rw [f1170, vl_ref rfl]
  refine tn_alen dX5_init_92 (fun P0 => ovC_q (by rw [o1120]; decide)) rfl ?_
  rw [show (T1114 x94).2 = 7 by rw [o1120]]
  show Tn _ _ 93 T1114 σ1159 [(1, .int (iI 5)), (0, .ref a)] [.int (iI 7), .int (iI 5)] _
  refine tn_icmp_ge (tgt := 115) dX5_init_93 (by decide) ⟨by decide, by decide⟩ ⟨by decide, by decide⟩ (fun h => absurd h (by decide)) (fun _ => ?_)
  refine tn_aload_n dX5_init_96 rfl 1 rfl ?_
  refine tn_getVr (ci := 5) (i := 1) (n := 34) (r := true) dX5_init_97 rfl lay_5 (by decide) fl5_20 (cx1162.r (by decide)) rfl rfl ?_
  rw [f1170, vl_ref rfl]
  refine tn_iload_n dX5_init_100 rfl 0 rfl ?_
  refine tn_newO (ci := 1) (N := 12) tyX1 tyX1_ok dX5_init_101 rfl lay_1 cl5_18 ist_1 ini_1 df_1 rfl (by decide) hfd_1 (fun x1188 hx1189 => ?_)
  have ne1190 := cx1162.ne hx1189
  have ne1190z := (cx1162.fresh hx1189).resolve_right (fun e => ne1190 e.symm)
  have ne1190_x94 : x94 ≠ x1188 := fun e => by rw [← e, o1120] at hx1189; exact absurd hx1189 (by decide)
  have ne1190d : ∀ j, j < 200 → (objS x1188 (gh 12 σ1159)).2.1 j (x1188 : Int) = dfF j := fun j hj => objS_eq hj
  have ne1190j := CXJ.new (T2 := (tT T1114 x1188 (80 + 1) 0)) (σ2 := (objS x1188 (gh 12 σ1159))) cj1168 cx1162.1 cx1162.2.1 hx1189 (by rw [tT_eq]; decide) (fun b9 e9 => tT_ne e9) (fun n9 c9 hn9 hc9 => by rw [objS_ne (by omega)]; rfl)
  have dd_x578_x1188 : NE9 x578 x1188 := fun e9 => by rw [← e9, o1128] at hx1189; exact absurd hx1189 (by decide)
  have dd_x690_x1188 : NE9 x690 x1188 := fun e9 => by rw [← e9, o1129] at hx1189; exact absurd hx1189 (by decide)
  have dd_x807_x1188 : NE9 x807 x1188 := fun e9 => by rw [← e9, o1130] at hx1189; exact absurd hx1189 (by decide)
  have dd_x929_x1188 : NE9 x929 x1188 := fun e9 => by rw [← e9, o1131] at hx1189; exact absurd hx1189 (by decide)
  have dd_x1056_x1188 : NE9 x1056 x1188 := fun e9 => by rw [← e9, o1132] at hx1189; exact absurd hx1189 (by decide)
  obtain ⟨T1191, σ1192, eT1193, eS1194, cx1195, f1217, f1218, f1219, f1220, f1221, f1222, f1223, f1224, f1225, f1226, f1227, f1228, f1229, f1230, f1231, f1232, f1233, f1234, f1235, o1196, o1197, o1198, o1199, o1200, o1201, o1202, o1203, o1204, o1205, o1206, o1207, o1208, o1209, o1210, nx1236, nx1237, r1211, r1212, r1213, r1214, r1215, cj1216⟩ : ∃ (T1191 : CT) (σ1192 : MS), T1191 = (tT T1114 x1188 (80 + 1) 0) ∧ σ1192 = (objS x1188 (gh 12 σ1159)) ∧ CX a 5 (x1056 :: (x929 :: (x807 :: (x690 :: (x578 :: K))))) 7054 53 T σ T1191 σ1192 ∧ (σ1192.2.1 33 a = (x1 : Int)) ∧ (σ1192.2.1 34 a = (x94 : Int)) ∧ (σ1192.2.1 35 a = -1) ∧ (σ1192.2.1 36 a = (x151 : Int)) ∧ (σ1192.2.1 37 a = (x209 : Int)) ∧ (σ1192.2.1 38 a = 0) ∧ (σ1192.2.1 39 a = (x268 : Int)) ∧ (σ1192.2.1 40 a = (x328 : Int)) ∧ (σ1192.2.1 41 a = (x389 : Int)) ∧ (σ1192.2.1 42 a = 0) ∧ (σ1192.2.1 43 a = 0) ∧ (σ1192.2.1 44 a = 0) ∧ (σ1192.2.1 45 a = 0) ∧ (σ1192.2.1 46 a = 0) ∧ (σ1192.2.1 47 a = 0) ∧ (σ1192.2.1 48 a = (x451 : Int)) ∧ (σ1192.2.1 49 a = (x514 : Int)) ∧ (σ1192.2.1 50 a = 0) ∧ (σ1192.2.1 51 a = 0) ∧ (T1191 x1 = (39, 0)) ∧ (T1191 x94 = (94, 7)) ∧ (T1191 x151 = (16, 256)) ∧ (T1191 x209 = (17, 256)) ∧ (T1191 x268 = (18, 256)) ∧ (T1191 x328 = (19, 256)) ∧ (T1191 x389 = (20, 256)) ∧ (T1191 x451 = (21, 12)) ∧ (T1191 x514 = (1, 8)) ∧ (T1191 x578 = (31, 0)) ∧ (T1191 x690 = (31, 0)) ∧ (T1191 x807 = (31, 0)) ∧ (T1191 x929 = (31, 0)) ∧ (T1191 x1056 = (31, 0)) ∧ (T1191 x1188 = (81, 0)) ∧ NX 7 a T T1191 ∧ NX 41 a T T1191 ∧ (σ1192.2.1 (1000 + x94) 0 = (x578 : Int)) ∧ (σ1192.2.1 (1000 + x94) 1 = (x690 : Int)) ∧ (σ1192.2.1 (1000 + x94) 2 = (x807 : Int)) ∧ (σ1192.2.1 (1000 + x94) 3 = (x929 : Int)) ∧ (σ1192.2.1 (1000 + x94) 4 = (x1056 : Int)) ∧ CXJ S0 a 5 T T1191 σ1192 := ⟨_, _, rfl, rfl, (cx1162.newO hx1189 (by decide)), (by rw [objS_ne (by omega)]; exact f1169), (by rw [objS_ne (by omega)]; exact f1170), (by rw [objS_ne (by omega)]; exact f1171), (by rw [objS_ne (by omega)]; exact f1172), (by rw [objS_ne (by omega)]; exact f1173), (by rw [objS_ne (by omega)]; exact f1174), (by rw [objS_ne (by omega)]; exact f1175), (by rw [objS_ne (by omega)]; exact f1176), (by rw [objS_ne (by omega)]; exact f1177), (by rw [objS_ne (by omega)]; exact f1178), (by rw [objS_ne (by omega)]; exact f1179), (by rw [objS_ne (by omega)]; exact f1180), (by rw [objS_ne (by omega)]; exact f1181), (by rw [objS_ne (by omega)]; exact f1182), (by rw [objS_ne (by omega)]; exact f1183), (by rw [objS_ne (by omega)]; exact f1184), (by rw [objS_ne (by omega)]; exact f1185), (by rw [objS_ne (by omega)]; exact f1186), (by rw [objS_ne (by omega)]; exact f1187), (tk_keep o1119 (by decide) hx1189), (tk_keep o1120 (by decide) hx1189), (tk_keep o1121 (by decide) hx1189), (tk_keep o1122 (by decide) hx1189), (tk_keep o1123 (by decide) hx1189), (tk_keep o1124 (by decide) hx1189), (tk_keep o1125 (by decide) hx1189), (tk_keep o1126 (by decide) hx1189), (tk_keep o1127 (by decide) hx1189), (tk_keep o1128 (by decide) hx1189), (tk_keep o1129 (by decide) hx1189), (tk_keep o1130 (by decide) hx1189), (tk_keep o1131 (by decide) hx1189), (tk_keep o1132 (by decide) hx1189), tT_eq, (nx1157.mk9 (by decide)), (nx1158.mk9 (by decide)), (by rw [objS_hi (by omega)]; exact r1163), (by rw [objS_hi (by omega)]; exact r1164), (by rw [objS_hi (by omega)]; exact r1165), (by rw [objS_hi (by omega)]; exact r1166), (by rw [objS_hi (by omega)]; exact r1167), ne1190j.1⟩
  rw [← eT1193]
  rw [← eS1194]
  rw [← eS1194] at ne1190d
  clear cx1162 cj1168 f1169 f1170 f1171 f1172 f1173 f1174 f1175 f1176 f1177 f1178 f1179 f1180 f1181 f1182 f1183 f1184 f1185 f1186 f1187 nx1157 nx1158 o1119 o1120 o1121 o1122 o1123 o1124 o1125 o1126 o1127 o1128 o1129 o1130 o1131 o1132 r1163 r1164 r1165 r1166 r1167
  refine tn_dup dX5_init_104 rfl ?_
  refine tn_callIN (M := m_X5_init) (pc := 105) (ix := 46) (M' := m_X1_init) (As := []) (rest := [.ref x1188, .int (iI 5), .ref x94]) dX5_init_105 ok_X1_init rfl rfl im_X1_init nl5_46 np_X1_init rfl (Nat.le_of_ble_eq_true rfl) (Nat.le_of_ble_eq_true rfl) rfl (kj_X1_init_31 (d) (T := T1191) (σ := σ1192) (a := x1188) (K := (x1056 :: (x929 :: (x807 :: (x690 :: (x578 :: K))))))  o1210 cx1195.2.1 cx1195.2.2.1 ne1190d cj1216.1 ) (fun r1238 T1239 σ1240 gt1241 hp => ?_)
  obtain ⟨rfl, hr1242, w1243, cd1244, kp1245, ga1246, gb1247, hr1242i, hr1242f, hr1242n7, hr1242n41⟩ := hp
  have ne1190b : a ≠ x1188 := ne1190
  have kp1245a := kp1245.1 a (by rw [cx1195.1]; decide) ne1190b
  have kp1245_x94 := kp1245.1 x94 (by rw [o1197]; decide) ne1190_x94
  obtain ⟨T1248, σ1249, eT1250, eS1251, cx1252, f1274, f1275, f1276, f1277, f1278, f1279, f1280, f1281, f1282, f1283, f1284, f1285, f1286, f1287, f1288, f1289, f1290, f1291, f1292, o1253, o1254, o1255, o1256, o1257, o1258, o1259, o1260, o1261, o1262, o1263, o1264, o1265, o1266, o1267, nx1293, nx1294, r1268, r1269, r1270, r1271, r1272, cj1273⟩ : ∃ (T1248 : CT) (σ1249 : MS), T1248 = T1239 ∧ σ1249 = σ1240 ∧ CX a 5 (x1188 :: (x1056 :: (x929 :: (x807 :: (x690 :: (x578 :: K)))))) 7467 60 T σ T1248 σ1249 ∧ (σ1249.2.1 33 a = (x1 : Int)) ∧ (σ1249.2.1 34 a = (x94 : Int)) ∧ (σ1249.2.1 35 a = -1) ∧ (σ1249.2.1 36 a = (x151 : Int)) ∧ (σ1249.2.1 37 a = (x209 : Int)) ∧ (σ1249.2.1 38 a = 0) ∧ (σ1249.2.1 39 a = (x268 : Int)) ∧ (σ1249.2.1 40 a = (x328 : Int)) ∧ (σ1249.2.1 41 a = (x389 : Int)) ∧ (σ1249.2.1 42 a = 0) ∧ (σ1249.2.1 43 a = 0) ∧ (σ1249.2.1 44 a = 0) ∧ (σ1249.2.1 45 a = 0) ∧ (σ1249.2.1 46 a = 0) ∧ (σ1249.2.1 47 a = 0) ∧ (σ1249.2.1 48 a = (x451 : Int)) ∧ (σ1249.2.1 49 a = (x514 : Int)) ∧ (σ1249.2.1 50 a = 0) ∧ (σ1249.2.1 51 a = 0) ∧ (T1248 x1 = (39, 0)) ∧ (T1248 x94 = (94, 7)) ∧ (T1248 x151 = (16, 256)) ∧ (T1248 x209 = (17, 256)) ∧ (T1248 x268 = (18, 256)) ∧ (T1248 x328 = (19, 256)) ∧ (T1248 x389 = (20, 256)) ∧ (T1248 x451 = (21, 12)) ∧ (T1248 x514 = (1, 8)) ∧ (T1248 x578 = (31, 0)) ∧ (T1248 x690 = (31, 0)) ∧ (T1248 x807 = (31, 0)) ∧ (T1248 x929 = (31, 0)) ∧ (T1248 x1056 = (31, 0)) ∧ (T1248 x1188 = (31, 0)) ∧ NX 7 a T T1248 ∧ NX 41 a T T1248 ∧ (σ1249.2.1 (1000 + x94) 0 = (x578 : Int)) ∧ (σ1249.2.1 (1000 + x94) 1 = (x690 : Int)) ∧ (σ1249.2.1 (1000 + x94) 2 = (x807 : Int)) ∧ (σ1249.2.1 (1000 + x94) 3 = (x929 : Int)) ∧ (σ1249.2.1 (1000 + x94) 4 = (x1056 : Int)) ∧ CXJ S0 a 5 T T1248 σ1249 := ⟨_, _, rfl, rfl, (cx1195.call ne1190b w1243 cd1244 kp1245 ga1246 gb1247 ne1190z), ((kp1245a.2.1 33 (by decide)).trans f1217), ((kp1245a.2.1 34 (by decide)).trans f1218), ((kp1245a.2.1 35 (by decide)).trans f1219), ((kp1245a.2.1 36 (by decide)).trans f1220), ((kp1245a.2.1 37 (by decide)).trans f1221), ((kp1245a.2.1 38 (by decide)).trans f1222), ((kp1245a.2.1 39 (by decide)).trans f1223), ((kp1245a.2.1 40 (by decide)).trans f1224), ((kp1245a.2.1 41 (by decide)).trans f1225), ((kp1245a.2.1 42 (by decide)).trans f1226), ((kp1245a.2.1 43 (by decide)).trans f1227), ((kp1245a.2.1 44 (by decide)).trans f1228), ((kp1245a.2.1 45 (by decide)).trans f1229), ((kp1245a.2.1 46 (by decide)).trans f1230), ((kp1245a.2.1 47 (by decide)).trans f1231), ((kp1245a.2.1 48 (by decide)).trans f1232), ((kp1245a.2.1 49 (by decide)).trans f1233), ((kp1245a.2.1 50 (by decide)).trans f1234), ((kp1245a.2.1 51 (by decide)).trans f1235), ((kp1245.1 x1 (by rw [o1196]; decide) (ne_of o1196 o1210 (by decide))).1.trans o1196), ((kp1245.1 x94 (by rw [o1197]; decide) (ne_of o1197 o1210 (by decide))).1.trans o1197), ((kp1245.1 x151 (by rw [o1198]; decide) (ne_of o1198 o1210 (by decide))).1.trans o1198), ((kp1245.1 x209 (by rw [o1199]; decide) (ne_of o1199 o1210 (by decide))).1.trans o1199), ((kp1245.1 x268 (by rw [o1200]; decide) (ne_of o1200 o1210 (by decide))).1.trans o1200), ((kp1245.1 x328 (by rw [o1201]; decide) (ne_of o1201 o1210 (by decide))).1.trans o1201), ((kp1245.1 x389 (by rw [o1202]; decide) (ne_of o1202 o1210 (by decide))).1.trans o1202), ((kp1245.1 x451 (by rw [o1203]; decide) (ne_of o1203 o1210 (by decide))).1.trans o1203), ((kp1245.1 x514 (by rw [o1204]; decide) (ne_of o1204 o1210 (by decide))).1.trans o1204), ((kp1245.1 x578 (by rw [o1205]; decide) (ne_of o1205 o1210 (by decide))).1.trans o1205), ((kp1245.1 x690 (by rw [o1206]; decide) (ne_of o1206 o1210 (by decide))).1.trans o1206), ((kp1245.1 x807 (by rw [o1207]; decide) (ne_of o1207 o1210 (by decide))).1.trans o1207), ((kp1245.1 x929 (by rw [o1208]; decide) (ne_of o1208 o1210 (by decide))).1.trans o1208), ((kp1245.1 x1056 (by rw [o1209]; decide) (ne_of o1209 o1210 (by decide))).1.trans o1209), hr1242, (nx1236.call kp1245 hr1242 (by decide) hr1242n7), (nx1237.call kp1245 hr1242 (by decide) hr1242n41), (by rw [kp1245_x94.2.2]; exact r1211), (by rw [kp1245_x94.2.2]; exact r1212), (by rw [kp1245_x94.2.2]; exact r1213), (by rw [kp1245_x94.2.2]; exact r1214), (by rw [kp1245_x94.2.2]; exact r1215), (CXJ.call cj1216 cx1195.1 cx1195.2.1 cx1195.2.2.2.1 ne1190b kp1245 (by rw [o1210]; decide) hr1242i hr1242f)⟩
  rw [← eT1250]
  rw [← eS1251]
  show Tn _ _ 108 T1248 σ1249 [(1, .int (iI 5)), (0, .ref a)] [.ref x1188, .int (iI 5), .ref x94] _
  clear cx1195 cj1216 f1217 f1218 f1219 f1220 f1221 f1222 f1223 f1224 f1225 f1226 f1227 f1228 f1229 f1230 f1231 f1232 f1233 f1234 f1235 nx1236 nx1237 o1196 o1197 o1198 o1199 o1200 o1201 o1202 o1203 o1204 o1205 o1206 o1207 o1208 o1209 o1210 r1211 r1212 r1213 r1214 r1215
  refine tn_aastQ (z := 5) (v := x1188) dX5_init_108 (by rw [o1254]; decide) (show OBr T1248 x1188 1 from ⟨by rw [o1267]; decide, by rw [o1267]; decide, by rw [o1267]; decide⟩) (by decide) (by rw [o1254]; decide) (by rw [o1254]; decide) ?_
  obtain ⟨σ1295, eS1297, cx1298, f1306, f1307, f1308, f1309, f1310, f1311, f1312, f1313, f1314, f1315, f1316, f1317, f1318, f1319, f1320, f1321, f1322, f1323, f1324, r1299, r1300, r1301, r1302, r1303, r1304, cj1305⟩ : ∃ (σ1295 : MS), σ1295 = (sA (1000 + x94) 5 (x1188 : Int) σ1249) ∧ CX a 5 (x1188 :: (x1056 :: (x929 :: (x807 :: (x690 :: (x578 :: K)))))) 7467 60 T σ T1248 σ1295 ∧ (σ1295.2.1 33 a = (x1 : Int)) ∧ (σ1295.2.1 34 a = (x94 : Int)) ∧ (σ1295.2.1 35 a = -1) ∧ (σ1295.2.1 36 a = (x151 : Int)) ∧ (σ1295.2.1 37 a = (x209 : Int)) ∧ (σ1295.2.1 38 a = 0) ∧ (σ1295.2.1 39 a = (x268 : Int)) ∧ (σ1295.2.1 40 a = (x328 : Int)) ∧ (σ1295.2.1 41 a = (x389 : Int)) ∧ (σ1295.2.1 42 a = 0) ∧ (σ1295.2.1 43 a = 0) ∧ (σ1295.2.1 44 a = 0) ∧ (σ1295.2.1 45 a = 0) ∧ (σ1295.2.1 46 a = 0) ∧ (σ1295.2.1 47 a = 0) ∧ (σ1295.2.1 48 a = (x451 : Int)) ∧ (σ1295.2.1 49 a = (x514 : Int)) ∧ (σ1295.2.1 50 a = 0) ∧ (σ1295.2.1 51 a = 0) ∧ (σ1295.2.1 (1000 + x94) 0 = (x578 : Int)) ∧ (σ1295.2.1 (1000 + x94) 1 = (x690 : Int)) ∧ (σ1295.2.1 (1000 + x94) 2 = (x807 : Int)) ∧ (σ1295.2.1 (1000 + x94) 3 = (x929 : Int)) ∧ (σ1295.2.1 (1000 + x94) 4 = (x1056 : Int)) ∧ (σ1295.2.1 (1000 + x94) 5 = (x1188 : Int)) ∧ CXJ S0 a 5 T T1248 σ1295 := ⟨_, rfl, (cx1252.row (by rw [o1254]; decide) ne96z), (rc_a (Or.inl (by decide)) f1274), (rc_a (Or.inl (by decide)) f1275), (rc_a (Or.inl (by decide)) f1276), (rc_a (Or.inl (by decide)) f1277), (rc_a (Or.inl (by decide)) f1278), (rc_a (Or.inl (by decide)) f1279), (rc_a (Or.inl (by decide)) f1280), (rc_a (Or.inl (by decide)) f1281), (rc_a (Or.inl (by decide)) f1282), (rc_a (Or.inl (by decide)) f1283), (rc_a (Or.inl (by decide)) f1284), (rc_a (Or.inl (by decide)) f1285), (rc_a (Or.inl (by decide)) f1286), (rc_a (Or.inl (by decide)) f1287), (rc_a (Or.inl (by decide)) f1288), (rc_a (Or.inl (by decide)) f1289), (rc_a (Or.inl (by decide)) f1290), (rc_a (Or.inl (by decide)) f1291), (rc_a (Or.inl (by decide)) f1292), (ra_ne (by decide) r1268), (ra_ne (by decide) r1269), (ra_ne (by decide) r1270), (ra_ne (by decide) r1271), (ra_ne (by decide) r1272), ra_eq, (CXJ.row cj1273 cx1252.2.1)⟩
  rw [← eS1297]
  clear cx1252 cj1273 f1274 f1275 f1276 f1277 f1278 f1279 f1280 f1281 f1282 f1283 f1284 f1285 f1286 f1287 f1288 f1289 f1290 f1291 f1292 r1268 r1269 r1270 r1271 r1272
  refine tn_iinc (q0 := 0) (L' := [(1, .int (iI 6)), (0, .ref a)]) dX5_init_109 rfl (by decide) rfl ?_
  refine tn_goto (tgt := 87) dX5_init_112 (by decide) ?_
  refine tn_iload_n dX5_init_87 rfl 0 rfl ?_
  refine tn_aload_n dX5_init_88 rfl 1 rfl ?_
  refine tn_getVr (ci := 5) (i := 1) (n := 34) (r := true) dX5_init_89 rfl lay_5 (by decide) fl5_20 (cx1298.r (by decide)) rfl rfl ?_
  rw [f1307, vl_ref rfl]
  refine tn_alen dX5_init_92 (fun P0 => ovC_q (by rw [o1254]; decide)) rfl ?_
  rw [show (T1248 x94).2 = 7 by rw [o1254]]
  show Tn _ _ 93 T1248 σ1295 [(1, .int (iI 6)), (0, .ref a)] [.int (iI 7), .int (iI 6)] _
  refine tn_icmp_ge (tgt := 115) dX5_init_93 (by decide) ⟨by decide, by decide⟩ ⟨by decide, by decide⟩ (fun h => absurd h (by decide)) (fun _ => ?_)
  refine tn_aload_n dX5_init_96 rfl 1 rfl ?_
  refine tn_getVr (ci := 5) (i := 1) (n := 34) (r := true) dX5_init_97 rfl lay_5 (by decide) fl5_20 (cx1298.r (by decide)) rfl rfl ?_
  rw [f1307, vl_ref rfl]
  refine tn_iload_n dX5_init_100 rfl 0 rfl ?_
  refine tn_newO (ci := 1) (N := 12) tyX1 tyX1_ok dX5_init_101 rfl lay_1 cl5_18 ist_1 ini_1 df_1 rfl (by decide) hfd_1 (fun x1325 hx1326 => ?_)
  have ne1327 := cx1298.ne hx1326
  have ne1327z := (cx1298.fresh hx1326).resolve_right (fun e => ne1327 e.symm)
  have ne1327_x94 : x94 ≠ x1325 := fun e => by rw [← e, o1254] at hx1326; exact absurd hx1326 (by decide)
  have ne1327d : ∀ j, j < 200 → (objS x1325 (gh 12 σ1295)).2.1 j (x1325 : Int) = dfF j := fun j hj => objS_eq hj
  have ne1327j := CXJ.new (T2 := (tT T1248 x1325 (80 + 1) 0)) (σ2 := (objS x1325 (gh 12 σ1295))) cj1305 cx1298.1 cx1298.2.1 hx1326 (by rw [tT_eq]; decide) (fun b9 e9 => tT_ne e9) (fun n9 c9 hn9 hc9 => by rw [objS_ne (by omega)]; rfl)
  have dd_x578_x1325 : NE9 x578 x1325 := fun e9 => by rw [← e9, o1262] at hx1326; exact absurd hx1326 (by decide)
  have dd_x690_x1325 : NE9 x690 x1325 := fun e9 => by rw [← e9, o1263] at hx1326; exact absurd hx1326 (by decide)
  have dd_x807_x1325 : NE9 x807 x1325 := fun e9 => by rw [← e9, o1264] at hx1326; exact absurd hx1326 (by decide)
  have dd_x929_x1325 : NE9 x929 x1325 := fun e9 => by rw [← e9, o1265] at hx1326; exact absurd hx1326 (by decide)
  have dd_x1056_x1325 : NE9 x1056 x1325 := fun e9 => by rw [← e9, o1266] at hx1326; exact absurd hx1326 (by decide)
  have dd_x1188_x1325 : NE9 x1188 x1325 := fun e9 => by rw [← e9, o1267] at hx1326; exact absurd hx1326 (by decide)
  obtain ⟨T1328, σ1329, eT1330, eS1331, cx1332, f1356, f1357, f1358, f1359, f1360, f1361, f1362, f1363, f1364, f1365, f1366, f1367, f1368, f1369, f1370, f1371, f1372, f1373, f1374, o1333, o1334, o1335, o1336, o1337, o1338, o1339, o1340, o1341, o1342, o1343, o1344, o1345, o1346, o1347, o1348, nx1375, nx1376, r1349, r1350, r1351, r1352, r1353, r1354, cj1355⟩ : ∃ (T1328 : CT) (σ1329 : MS), T1328 = (tT T1248 x1325 (80 + 1) 0) ∧ σ1329 = (objS x1325 (gh 12 σ1295)) ∧ CX a 5 (x1188 :: (x1056 :: (x929 :: (x807 :: (x690 :: (x578 :: K)))))) 7479 61 T σ T1328 σ1329 ∧ (σ1329.2.1 33 a = (x1 : Int)) ∧ (σ1329.2.1 34 a = (x94 : Int)) ∧ (σ1329.2.1 35 a = -1) ∧ (σ1329.2.1 36 a = (x151 : Int)) ∧ (σ1329.2.1 37 a = (x209 : Int)) ∧ (σ1329.2.1 38 a = 0) ∧ (σ1329.2.1 39 a = (x268 : Int)) ∧ (σ1329.2.1 40 a = (x328 : Int)) ∧ (σ1329.2.1 41 a = (x389 : Int)) ∧ (σ1329.2.1 42 a = 0) ∧ (σ1329.2.1 43 a = 0) ∧ (σ1329.2.1 44 a = 0) ∧ (σ1329.2.1 45 a = 0) ∧ (σ1329.2.1 46 a = 0) ∧ (σ1329.2.1 47 a = 0) ∧ (σ1329.2.1 48 a = (x451 : Int)) ∧ (σ1329.2.1 49 a = (x514 : Int)) ∧ (σ1329.2.1 50 a = 0) ∧ (σ1329.2.1 51 a = 0) ∧ (T1328 x1 = (39, 0)) ∧ (T1328 x94 = (94, 7)) ∧ (T1328 x151 = (16, 256)) ∧ (T1328 x209 = (17, 256)) ∧ (T1328 x268 = (18, 256)) ∧ (T1328 x328 = (19, 256)) ∧ (T1328 x389 = (20, 256)) ∧ (T1328 x451 = (21, 12)) ∧ (T1328 x514 = (1, 8)) ∧ (T1328 x578 = (31, 0)) ∧ (T1328 x690 = (31, 0)) ∧ (T1328 x807 = (31, 0)) ∧ (T1328 x929 = (31, 0)) ∧ (T1328 x1056 = (31, 0)) ∧ (T1328 x1188 = (31, 0)) ∧ (T1328 x1325 = (81, 0)) ∧ NX 7 a T T1328 ∧ NX 41 a T T1328 ∧ (σ1329.2.1 (1000 + x94) 0 = (x578 : Int)) ∧ (σ1329.2.1 (1000 + x94) 1 = (x690 : Int)) ∧ (σ1329.2.1 (1000 + x94) 2 = (x807 : Int)) ∧ (σ1329.2.1 (1000 + x94) 3 = (x929 : Int)) ∧ (σ1329.2.1 (1000 + x94) 4 = (x1056 : Int)) ∧ (σ1329.2.1 (1000 + x94) 5 = (x1188 : Int)) ∧ CXJ S0 a 5 T T1328 σ1329 := ⟨_, _, rfl, rfl, (cx1298.newO hx1326 (by decide)), (by rw [objS_ne (by omega)]; exact f1306), (by rw [objS_ne (by omega)]; exact f1307), (by rw [objS_ne (by omega)]; exact f1308), (by rw [objS_ne (by omega)]; exact f1309), (by rw [objS_ne (by omega)]; exact f1310), (by rw [objS_ne (by omega)]; exact f1311), (by rw [objS_ne (by omega)]; exact f1312), (by rw [objS_ne (by omega)]; exact f1313), (by rw [objS_ne (by omega)]; exact f1314), (by rw [objS_ne (by omega)]; exact f1315), (by rw [objS_ne (by omega)]; exact f1316), (by rw [objS_ne (by omega)]; exact f1317), (by rw [objS_ne (by omega)]; exact f1318), (by rw [objS_ne (by omega)]; exact f1319), (by rw [objS_ne (by omega)]; exact f1320), (by rw [objS_ne (by omega)]; exact f1321), (by rw [objS_ne (by omega)]; exact f1322), (by rw [objS_ne (by omega)]; exact f1323), (by rw [objS_ne (by omega)]; exact f1324), (tk_keep o1253 (by decide) hx1326), (tk_keep o1254 (by decide) hx1326), (tk_keep o1255 (by decide) hx1326), (tk_keep o1256 (by decide) hx1326), (tk_keep o1257 (by decide) hx1326), (tk_keep o1258 (by decide) hx1326), (tk_keep o1259 (by decide) hx1326), (tk_keep o1260 (by decide) hx1326), (tk_keep o1261 (by decide) hx1326), (tk_keep o1262 (by decide) hx1326), (tk_keep o1263 (by decide) hx1326), (tk_keep o1264 (by decide) hx1326), (tk_keep o1265 (by decide) hx1326), (tk_keep o1266 (by decide) hx1326), (tk_keep o1267 (by decide) hx1326), tT_eq, (nx1293.mk9 (by decide)), (nx1294.mk9 (by decide)), (by rw [objS_hi (by omega)]; exact r1299), (by rw [objS_hi (by omega)]; exact r1300), (by rw [objS_hi (by omega)]; exact r1301), (by rw [objS_hi (by omega)]; exact r1302), (by rw [objS_hi (by omega)]; exact r1303), (by rw [objS_hi (by omega)]; exact r1304), ne1327j.1⟩
  rw [← eT1330]
  rw [← eS1331]
  rw [← eS1331] at ne1327d
  clear cx1298 cj1305 f1306 f1307 f1308 f1309 f1310 f1311 f1312 f1313 f1314 f1315 f1316 f1317 f1318 f1319 f1320 f1321 f1322 f1323 f1324 nx1293 nx1294 o1253 o1254 o1255 o1256 o1257 o1258 o1259 o1260 o1261 o1262 o1263 o1264 o1265 o1266 o1267 r1299 r1300 r1301 r1302 r1303 r1304
  refine tn_dup dX5_init_104 rfl ?_
  refine tn_callIN (M := m_X5_init) (pc := 105) (ix := 46) (M' := m_X1_init) (As := []) (rest := [.ref x1325, .int (iI 6), .ref x94]) dX5_init_105 ok_X1_init rfl rfl im_X1_init nl5_46 np_X1_init rfl (Nat.le_of_ble_eq_true rfl) (Nat.le_of_ble_eq_true rfl) rfl (kj_X1_init_31 (d) (T := T1328) (σ := σ1329) (a := x1325) (K := (x1188 :: (x1056 :: (x929 :: (x807 :: (x690 :: (x578 :: K)))))))  o1348 cx1332.2.1 cx1332.2.2.1 ne1327d cj1355.1 ) (fun r1377 T1378 σ1379 gt1380 hp => ?_)
  obtain ⟨rfl, hr1381, w1382, cd1383, kp1384, ga1385, gb1386, hr1381i, hr1381f, hr1381n7, hr1381n41⟩ := hp
  have ne1327b : a ≠ x1325 := ne1327
  have kp1384a := kp1384.1 a (by rw [cx1332.1]; decide) ne1327b
  have kp1384_x94 := kp1384.1 x94 (by rw [o1334]; decide) ne1327_x94
  obtain ⟨T1387, σ1388, eT1389, eS1390, cx1391, f1415, f1416, f1417, f1418, f1419, f1420, f1421, f1422, f1423, f1424, f1425, f1426, f1427, f1428, f1429, f1430, f1431, f1432, f1433, o1392, o1393, o1394, o1395, o1396, o1397, o1398, o1399, o1400, o1401, o1402, o1403, o1404, o1405, o1406, o1407, nx1434, nx1435, r1408, r1409, r1410, r1411, r1412, r1413, cj1414⟩ : ∃ (T1387 : CT) (σ1388 : MS), T1387 = T1378 ∧ σ1388 = σ1379 ∧ CX a 5 (x1325 :: (x1188 :: (x1056 :: (x929 :: (x807 :: (x690 :: (x578 :: K))))))) 7892 68 T σ T1387 σ1388 ∧ (σ1388.2.1 33 a = (x1 : Int)) ∧ (σ1388.2.1 34 a = (x94 : Int)) ∧ (σ1388.2.1 35 a = -1) ∧ (σ1388.2.1 36 a = (x151 : Int)) ∧ (σ1388.2.1 37 a = (x209 : Int)) ∧ (σ1388.2.1 38 a = 0) ∧ (σ1388.2.1 39 a = (x268 : Int)) ∧ (σ1388.2.1 40 a = (x328 : Int)) ∧ (σ1388.2.1 41 a = (x389 : Int)) ∧ (σ1388.2.1 42 a = 0) ∧ (σ1388.2.1 43 a = 0) ∧ (σ1388.2.1 44 a = 0) ∧ (σ1388.2.1 45 a = 0) ∧ (σ1388.2.1 46 a = 0) ∧ (σ1388.2.1 47 a = 0) ∧ (σ1388.2.1 48 a = (x451 : Int)) ∧ (σ1388.2.1 49 a = (x514 : Int)) ∧ (σ1388.2.1 50 a = 0) ∧ (σ1388.2.1 51 a = 0) ∧ (T1387 x1 = (39, 0)) ∧ (T1387 x94 = (94, 7)) ∧ (T1387 x151 = (16, 256)) ∧ (T1387 x209 = (17, 256)) ∧ (T1387 x268 = (18, 256)) ∧ (T1387 x328 = (19, 256)) ∧ (T1387 x389 = (20, 256)) ∧ (T1387 x451 = (21, 12)) ∧ (T1387 x514 = (1, 8)) ∧ (T1387 x578 = (31, 0)) ∧ (T1387 x690 = (31, 0)) ∧ (T1387 x807 = (31, 0)) ∧ (T1387 x929 = (31, 0)) ∧ (T1387 x1056 = (31, 0)) ∧ (T1387 x1188 = (31, 0)) ∧ (T1387 x1325 = (31, 0)) ∧ NX 7 a T T1387 ∧ NX 41 a T T1387 ∧ (σ1388.2.1 (1000 + x94) 0 = (x578 : Int)) ∧ (σ1388.2.1 (1000 + x94) 1 = (x690 : Int)) ∧ (σ1388.2.1 (1000 + x94) 2 = (x807 : Int)) ∧ (σ1388.2.1 (1000 + x94) 3 = (x929 : Int)) ∧ (σ1388.2.1 (1000 + x94) 4 = (x1056 : Int)) ∧ (σ1388.2.1 (1000 + x94) 5 = (x1188 : Int)) ∧ CXJ S0 a 5 T T1387 σ1388 := ⟨_, _, rfl, rfl, (cx1332.call ne1327b w1382 cd1383 kp1384 ga1385 gb1386 ne1327z), ((kp1384a.2.1 33 (by decide)).trans f1356), ((kp1384a.2.1 34 (by decide)).trans f1357), ((kp1384a.2.1 35 (by decide)).trans f1358), ((kp1384a.2.1 36 (by decide)).trans f1359), ((kp1384a.2.1 37 (by decide)).trans f1360), ((kp1384a.2.1 38 (by decide)).trans f1361), ((kp1384a.2.1 39 (by decide)).trans f1362), ((kp1384a.2.1 40 (by decide)).trans f1363), ((kp1384a.2.1 41 (by decide)).trans f1364), ((kp1384a.2.1 42 (by decide)).trans f1365), ((kp1384a.2.1 43 (by decide)).trans f1366), ((kp1384a.2.1 44 (by decide)).trans f1367), ((kp1384a.2.1 45 (by decide)).trans f1368), ((kp1384a.2.1 46 (by decide)).trans f1369), ((kp1384a.2.1 47 (by decide)).trans f1370), ((kp1384a.2.1 48 (by decide)).trans f1371), ((kp1384a.2.1 49 (by decide)).trans f1372), ((kp1384a.2.1 50 (by decide)).trans f1373), ((kp1384a.2.1 51 (by decide)).trans f1374), ((kp1384.1 x1 (by rw [o1333]; decide) (ne_of o1333 o1348 (by decide))).1.trans o1333), ((kp1384.1 x94 (by rw [o1334]; decide) (ne_of o1334 o1348 (by decide))).1.trans o1334), ((kp1384.1 x151 (by rw [o1335]; decide) (ne_of o1335 o1348 (by decide))).1.trans o1335), ((kp1384.1 x209 (by rw [o1336]; decide) (ne_of o1336 o1348 (by decide))).1.trans o1336), ((kp1384.1 x268 (by rw [o1337]; decide) (ne_of o1337 o1348 (by decide))).1.trans o1337), ((kp1384.1 x328 (by rw [o1338]; decide) (ne_of o1338 o1348 (by decide))).1.trans o1338), ((kp1384.1 x389 (by rw [o1339]; decide) (ne_of o1339 o1348 (by decide))).1.trans o1339), ((kp1384.1 x451 (by rw [o1340]; decide) (ne_of o1340 o1348 (by decide))).1.trans o1340), ((kp1384.1 x514 (by rw [o1341]; decide) (ne_of o1341 o1348 (by decide))).1.trans o1341), ((kp1384.1 x578 (by rw [o1342]; decide) (ne_of o1342 o1348 (by decide))).1.trans o1342), ((kp1384.1 x690 (by rw [o1343]; decide) (ne_of o1343 o1348 (by decide))).1.trans o1343), ((kp1384.1 x807 (by rw [o1344]; decide) (ne_of o1344 o1348 (by decide))).1.trans o1344), ((kp1384.1 x929 (by rw [o1345]; decide) (ne_of o1345 o1348 (by decide))).1.trans o1345), ((kp1384.1 x1056 (by rw [o1346]; decide) (ne_of o1346 o1348 (by decide))).1.trans o1346), ((kp1384.1 x1188 (by rw [o1347]; decide) (ne_of o1347 o1348 (by decide))).1.trans o1347), hr1381, (nx1375.call kp1384 hr1381 (by decide) hr1381n7), (nx1376.call kp1384 hr1381 (by decide) hr1381n41), (by rw [kp1384_x94.2.2]; exact r1349), (by rw [kp1384_x94.2.2]; exact r1350), (by rw [kp1384_x94.2.2]; exact r1351), (by rw [kp1384_x94.2.2]; exact r1352), (by rw [kp1384_x94.2.2]; exact r1353), (by rw [kp1384_x94.2.2]; exact r1354), (CXJ.call cj1355 cx1332.1 cx1332.2.1 cx1332.2.2.2.1 ne1327b kp1384 (by rw [o1348]; decide) hr1381i hr1381f)⟩
  rw [← eT1389]
  rw [← eS1390]
  show Tn _ _ 108 T1387 σ1388 [(1, .int (iI 6)), (0, .ref a)] [.ref x1325, .int (iI 6), .ref x94] _
  clear cx1332 cj1355 f1356 f1357 f1358 f1359 f1360 f1361 f1362 f1363 f1364 f1365 f1366 f1367 f1368 f1369 f1370 f1371 f1372 f1373 f1374 nx1375 nx1376 o1333 o1334 o1335 o1336 o1337 o1338 o1339 o1340 o1341 o1342 o1343 o1344 o1345 o1346 o1347 o1348 r1349 r1350 r1351 r1352 r1353 r1354
  refine tn_aastQ (z := 6) (v := x1325) dX5_init_108 (by rw [o1393]; decide) (show OBr T1387 x1325 1 from ⟨by rw [o1407]; decide, by rw [o1407]; decide, by rw [o1407]; decide⟩) (by decide) (by rw [o1393]; decide) (by rw [o1393]; decide) ?_
  obtain ⟨σ1436, eS1438, cx1439, f1448, f1449, f1450, f1451, f1452, f1453, f1454, f1455, f1456, f1457, f1458, f1459, f1460, f1461, f1462, f1463, f1464, f1465, f1466, r1440, r1441, r1442, r1443, r1444, r1445, r1446, cj1447⟩ : ∃ (σ1436 : MS), σ1436 = (sA (1000 + x94) 6 (x1325 : Int) σ1388) ∧ CX a 5 (x1325 :: (x1188 :: (x1056 :: (x929 :: (x807 :: (x690 :: (x578 :: K))))))) 7892 68 T σ T1387 σ1436 ∧ (σ1436.2.1 33 a = (x1 : Int)) ∧ (σ1436.2.1 34 a = (x94 : Int)) ∧ (σ1436.2.1 35 a = -1) ∧ (σ1436.2.1 36 a = (x151 : Int)) ∧ (σ1436.2.1 37 a = (x209 : Int)) ∧ (σ1436.2.1 38 a = 0) ∧ (σ1436.2.1 39 a = (x268 : Int)) ∧ (σ1436.2.1 40 a = (x328 : Int)) ∧ (σ1436.2.1 41 a = (x389 : Int)) ∧ (σ1436.2.1 42 a = 0) ∧ (σ1436.2.1 43 a = 0) ∧ (σ1436.2.1 44 a = 0) ∧ (σ1436.2.1 45 a = 0) ∧ (σ1436.2.1 46 a = 0) ∧ (σ1436.2.1 47 a = 0) ∧ (σ1436.2.1 48 a = (x451 : Int)) ∧ (σ1436.2.1 49 a = (x514 : Int)) ∧ (σ1436.2.1 50 a = 0) ∧ (σ1436.2.1 51 a = 0) ∧ (σ1436.2.1 (1000 + x94) 0 = (x578 : Int)) ∧ (σ1436.2.1 (1000 + x94) 1 = (x690 : Int)) ∧ (σ1436.2.1 (1000 + x94) 2 = (x807 : Int)) ∧ (σ1436.2.1 (1000 + x94) 3 = (x929 : Int)) ∧ (σ1436.2.1 (1000 + x94) 4 = (x1056 : Int)) ∧ (σ1436.2.1 (1000 + x94) 5 = (x1188 : Int)) ∧ (σ1436.2.1 (1000 + x94) 6 = (x1325 : Int)) ∧ CXJ S0 a 5 T T1387 σ1436 := ⟨_, rfl, (cx1391.row (by rw [o1393]; decide) ne96z), (rc_a (Or.inl (by decide)) f1415), (rc_a (Or.inl (by decide)) f1416), (rc_a (Or.inl (by decide)) f1417), (rc_a (Or.inl (by decide)) f1418), (rc_a (Or.inl (by decide)) f1419), (rc_a (Or.inl (by decide)) f1420), (rc_a (Or.inl (by decide)) f1421), (rc_a (Or.inl (by decide)) f1422), (rc_a (Or.inl (by decide)) f1423), (rc_a (Or.inl (by decide)) f1424), (rc_a (Or.inl (by decide)) f1425), (rc_a (Or.inl (by decide)) f1426), (rc_a (Or.inl (by decide)) f1427), (rc_a (Or.inl (by decide)) f1428), (rc_a (Or.inl (by decide)) f1429), (rc_a (Or.inl (by decide)) f1430), (rc_a (Or.inl (by decide)) f1431), (rc_a (Or.inl (by decide)) f1432), (rc_a (Or.inl (by decide)) f1433), (ra_ne (by decide) r1408), (ra_ne (by decide) r1409), (ra_ne (by decide) r1410), (ra_ne (by decide) r1411), (ra_ne (by decide) r1412), (ra_ne (by decide) r1413), ra_eq, (CXJ.row cj1414 cx1391.2.1)⟩
  rw [← eS1438]
  clear cx1391 cj1414 f1415 f1416 f1417 f1418 f1419 f1420 f1421 f1422 f1423 f1424 f1425 f1426 f1427 f1428 f1429 f1430 f1431 f1432 f1433 r1408 r1409 r1410 r1411 r1412 r1413
  refine tn_iinc (q0 := 0) (L' := [(1, .int (iI 7)), (0, .ref a)]) dX5_init_109 rfl (by decide) rfl ?_
  refine tn_goto (tgt := 87) dX5_init_112 (by decide) ?_
  refine tn_iload_n dX5_init_87 rfl 0 rfl ?_
  refine tn_aload_n dX5_init_88 rfl 1 rfl ?_
  refine tn_getVr (ci := 5) (i := 1) (n := 34) (r := true) dX5_init_89 rfl lay_5 (by decide) fl5_20 (cx1439.r (by decide)) rfl rfl ?_
  rw [f1449, vl_ref rfl]
  refine tn_alen dX5_init_92 (fun P0 => ovC_q (by rw [o1393]; decide)) rfl ?_
  rw [show (T1387 x94).2 = 7 by rw [o1393]]
  show Tn _ _ 93 T1387 σ1436 [(1, .int (iI 7)), (0, .ref a)] [.int (iI 7), .int (iI 7)] _
  refine tn_icmp_ge (tgt := 115) dX5_init_93 (by decide) ⟨by decide, by decide⟩ ⟨by decide, by decide⟩ (fun _ => ?_) (fun h => absurd h (by decide))
  refine tn_aload_n dX5_init_115 rfl 1 rfl ?_
  refine tn_aload_n dX5_init_116 rfl 1 rfl ?_
  refine tn_getVr (ci := 5) (i := 1) (n := 34) (r := true) dX5_init_117 rfl lay_5 (by decide) fl5_20 (cx1439.r (by decide)) rfl rfl ?_
  rw [f1449, vl_ref rfl]
  refine tn_iconst dX5_init_120 ?_
  have hq1467 : ∀ i, 0 ≤ i → i < ((7 : Nat) : Int) → ∃ y : Nat, σ1436.2.1 (1000 + x94) i = (y : Int) ∧ T1387 y = ((if 4 = 4 then 31 else 50), 0) := fun i i0 i1 => by
    have c9 : i = 0 ∨ i = 1 ∨ i = 2 ∨ i = 3 ∨ i = 4 ∨ i = 5 ∨ i = 6 := by omega
    rcases c9 with c9 | c9 | c9 | c9 | c9 | c9 | c9
    · rw [c9]; exact ⟨_, r1440, o1401⟩
    · rw [c9]; exact ⟨_, r1441, o1402⟩
    · rw [c9]; exact ⟨_, r1442, o1403⟩
    · rw [c9]; exact ⟨_, r1443, o1404⟩
    · rw [c9]; exact ⟨_, r1444, o1405⟩
    · rw [c9]; exact ⟨_, r1445, o1406⟩
    · rw [c9]; exact ⟨_, r1446, o1407⟩
  refine tn_tagQ (x := x94) (k := 4) (N := 7) o1393 (by decide) ?_
  have ne1468 : x1 ≠ x94 := ne_of o1392 o1393 (by decide)
  have ne1469 : x151 ≠ x94 := ne_of o1394 o1393 (by decide)
  have ne1470 : x209 ≠ x94 := ne_of o1395 o1393 (by decide)
  have ne1471 : x268 ≠ x94 := ne_of o1396 o1393 (by decide)
  have ne1472 : x328 ≠ x94 := ne_of o1397 o1393 (by decide)
  have ne1473 : x389 ≠ x94 := ne_of o1398 o1393 (by decide)
  have ne1474 : x451 ≠ x94 := ne_of o1399 o1393 (by decide)
  have ne1475 : x514 ≠ x94 := ne_of o1400 o1393 (by decide)
  have ne1476 : x578 ≠ x94 := ne_of o1401 o1393 (by decide)
  have ne1477 : x690 ≠ x94 := ne_of o1402 o1393 (by decide)
  have ne1478 : x807 ≠ x94 := ne_of o1403 o1393 (by decide)
  have ne1479 : x929 ≠ x94 := ne_of o1404 o1393 (by decide)
  have ne1480 : x1056 ≠ x94 := ne_of o1405 o1393 (by decide)
  have ne1481 : x1188 ≠ x94 := ne_of o1406 o1393 (by decide)
  have ne1482 : x1325 ≠ x94 := ne_of o1407 o1393 (by decide)
  obtain ⟨T1483, eT1484, cx1486, o1487, o1488, o1489, o1490, o1491, o1492, o1493, o1494, o1495, o1496, o1497, o1498, o1499, o1500, o1501, o1502, nx1504, nx1505, cj1503⟩ : ∃ (T1483 : CT), T1483 = (tT T1387 x94 4 7) ∧ CX a 5 (x1325 :: (x1188 :: (x1056 :: (x929 :: (x807 :: (x690 :: (x578 :: K))))))) 7892 68 T σ T1483 σ1436 ∧ (T1483 x1 = (39, 0)) ∧ (T1483 x94 = (4, 7)) ∧ (T1483 x151 = (16, 256)) ∧ (T1483 x209 = (17, 256)) ∧ (T1483 x268 = (18, 256)) ∧ (T1483 x328 = (19, 256)) ∧ (T1483 x389 = (20, 256)) ∧ (T1483 x451 = (21, 12)) ∧ (T1483 x514 = (1, 8)) ∧ (T1483 x578 = (31, 0)) ∧ (T1483 x690 = (31, 0)) ∧ (T1483 x807 = (31, 0)) ∧ (T1483 x929 = (31, 0)) ∧ (T1483 x1056 = (31, 0)) ∧ (T1483 x1188 = (31, 0)) ∧ (T1483 x1325 = (31, 0)) ∧ NX 7 a T T1483 ∧ NX 41 a T T1483 ∧ CXJ S0 a 5 T T1483 σ1436 := ⟨_, rfl, (cx1439.tagQ o1393 (by decide) ne96z (by decide) hq1467), ((tT_ne ne1468).trans o1392), tT_eq, ((tT_ne ne1469).trans o1394), ((tT_ne ne1470).trans o1395), ((tT_ne ne1471).trans o1396), ((tT_ne ne1472).trans o1397), ((tT_ne ne1473).trans o1398), ((tT_ne ne1474).trans o1399), ((tT_ne ne1475).trans o1400), ((tT_ne ne1476).trans o1401), ((tT_ne ne1477).trans o1402), ((tT_ne ne1478).trans o1403), ((tT_ne ne1479).trans o1404), ((tT_ne ne1480).trans o1405), ((tT_ne ne1481).trans o1406), ((tT_ne ne1482).trans o1407), (nx1434.tagQ (by decide)), (nx1435.tagQ (by decide)), (CXJ.tagQ cj1447 cx1439.2.1 (by rw [o1393]; decide) (by decide))⟩
  rw [← eT1484]
  refine tn_aald (z := 0) (x := x578) dX5_init_121 (by rw [o1488]; decide) (by decide) (by rw [o1488]; decide) (by rw [o1488]; decide) r1440 ?_
  clear cx1439 cj1447 nx1434 nx1435 o1392 o1393 o1394 o1395 o1396 o1397 o1398 o1399 o1400 o1401 o1402 o1403 o1404 o1405 o1406 o1407
  refine tn_putVr (ci := 5) (i := 2) (n := 35) (r := true) (v := (x578 : Int)) tyX5 tyX5_ok nmX5 dX5_init_122 rfl lay_5 (by decide) fl5_47 rfl (tyX5_ok 2 (by decide)) (vl_ref rfl).symm rfl rfl (cx1486.r (by decide)) rfl rfl ?_
  obtain ⟨σ1506, eS1508, cx1509, f1518, f1519, f1520, f1521, f1522, f1523, f1524, f1525, f1526, f1527, f1528, f1529, f1530, f1531, f1532, f1533, f1534, f1535, f1536, r1510, r1511, r1512, r1513, r1514, r1515, r1516, cj1517⟩ : ∃ (σ1506 : MS), σ1506 = (sA 35 a ((x578 : Int)) σ1436) ∧ CX a 5 (x1325 :: (x1188 :: (x1056 :: (x929 :: (x807 :: (x690 :: (x578 :: K))))))) 7892 68 T σ T1483 σ1506 ∧ (σ1506.2.1 33 a = (x1 : Int)) ∧ (σ1506.2.1 34 a = (x94 : Int)) ∧ (σ1506.2.1 35 a = (x578 : Int)) ∧ (σ1506.2.1 36 a = (x151 : Int)) ∧ (σ1506.2.1 37 a = (x209 : Int)) ∧ (σ1506.2.1 38 a = 0) ∧ (σ1506.2.1 39 a = (x268 : Int)) ∧ (σ1506.2.1 40 a = (x328 : Int)) ∧ (σ1506.2.1 41 a = (x389 : Int)) ∧ (σ1506.2.1 42 a = 0) ∧ (σ1506.2.1 43 a = 0) ∧ (σ1506.2.1 44 a = 0) ∧ (σ1506.2.1 45 a = 0) ∧ (σ1506.2.1 46 a = 0) ∧ (σ1506.2.1 47 a = 0) ∧ (σ1506.2.1 48 a = (x451 : Int)) ∧ (σ1506.2.1 49 a = (x514 : Int)) ∧ (σ1506.2.1 50 a = 0) ∧ (σ1506.2.1 51 a = 0) ∧ (σ1506.2.1 (1000 + x94) 0 = (x578 : Int)) ∧ (σ1506.2.1 (1000 + x94) 1 = (x690 : Int)) ∧ (σ1506.2.1 (1000 + x94) 2 = (x807 : Int)) ∧ (σ1506.2.1 (1000 + x94) 3 = (x929 : Int)) ∧ (σ1506.2.1 (1000 + x94) 4 = (x1056 : Int)) ∧ (σ1506.2.1 (1000 + x94) 5 = (x1188 : Int)) ∧ (σ1506.2.1 (1000 + x94) 6 = (x1325 : Int)) ∧ CXJ S0 a 5 T T1483 σ1506 := ⟨_, rfl, (cx1486.put (by decide)), (rc_o (by decide) f1448), (rc_o (by decide) f1449), ra_eq, (rc_o (by decide) f1451), (rc_o (by decide) f1452), (rc_o (by decide) f1453), (rc_o (by decide) f1454), (rc_o (by decide) f1455), (rc_o (by decide) f1456), (rc_o (by decide) f1457), (rc_o (by decide) f1458), (rc_o (by decide) f1459), (rc_o (by decide) f1460), (rc_o (by decide) f1461), (rc_o (by decide) f1462), (rc_o (by decide) f1463), (rc_o (by decide) f1464), (rc_o (by decide) f1465), (rc_o (by decide) f1466), (ra_o (by omega) r1440), (ra_o (by omega) r1441), (ra_o (by omega) r1442), (ra_o (by omega) r1443), (ra_o (by omega) r1444), (ra_o (by omega) r1445), (ra_o (by omega) r1446), (CXJ.put cj1503 cx1486.1 cx1486.2.1 (by decide))⟩
  rw [← eS1508]
  clear cx1486 cj1503 f1448 f1449 f1450 f1451 f1452 f1453 f1454 f1455 f1456 f1457 f1458 f1459 f1460 f1461 f1462 f1463 f1464 f1465 f1466 r1440 r1441 r1442 r1443 r1444 r1445 r1446
  refine tn_tag (ci := 5) (k := 35) (by decide) cx1509.1 (by decide) ?_
  have hf9 : ∀ m, m < 111 → cls m = 5 → FO m 35 T1483 (σ1506.2.1 m a) := fun m hm9 hc9 => by
    have q9 := clsR_5 m hm9 hc9
    have q8 : m = 33 ∨ m = 34 ∨ m = 35 ∨ m = 36 ∨ m = 37 ∨ m = 38 ∨ m = 39 ∨ m = 40 ∨ m = 41 ∨ m = 42 ∨ m = 43 ∨ m = 44 ∨ m = 45 ∨ m = 46 ∨ m = 47 ∨ m = 48 ∨ m = 49 ∨ m = 50 ∨ m = 51 := by omega
    rcases q8 with q8 | q8 | q8 | q8 | q8 | q8 | q8 | q8 | q8 | q8 | q8 | q8 | q8 | q8 | q8 | q8 | q8 | q8 | q8
    · subst q8; rw [f1518]; exact fo_33 (⟨_, rfl, tg1 o1487⟩)
    · subst q8; rw [f1519]; exact fo_34 (⟨_, rfl, AR.of o1488 (by decide) (by decide)⟩)
    · subst q8; rw [f1520]; exact fo_35 (⟨_, rfl, tg1 o1496⟩)
    · subst q8; rw [f1521]; exact fo_36 (⟨_, rfl, AR.of o1489 (by decide) (by decide)⟩)
    · subst q8; rw [f1522]; exact fo_37 (⟨_, rfl, AR.of o1490 (by decide) (by decide)⟩)
    · subst q8; rw [f1523]; exact fo_38 (by decide)
    · subst q8; rw [f1524]; exact fo_39 (⟨_, rfl, AR.of o1491 (by decide) (by decide)⟩)
    · subst q8; rw [f1525]; exact fo_40 (⟨_, rfl, AR.of o1492 (by decide) (by decide)⟩)
    · subst q8; rw [f1526]; exact fo_41 (⟨_, rfl, AR.of o1493 (by decide) (by decide)⟩)
    · subst q8; rw [f1527]; exact fo_42 (by decide)
    · subst q8; rw [f1528]; exact fo_43 (by decide)
    · subst q8; rw [f1529]; exact fo_44 (by decide)
    · subst q8; rw [f1530]; exact fo_45 (by decide)
    · subst q8; rw [f1531]; exact fo_46 (by decide)
    · subst q8; rw [f1532]; exact fo_47 (by decide)
    · subst q8; rw [f1533]; exact fo_48 (⟨_, rfl, AR.of o1494 (by decide) (by decide)⟩)
    · subst q8; rw [f1534]; exact fo_49 (⟨_, rfl, AR.of o1495 (by decide) (by decide)⟩)
    · subst q8; rw [f1535]; exact fo_50 (by decide)
    · subst q8; rw [f1536]; exact fo_51 (by decide)
  have jq9 : ∀ f ∈ AFL, cls f = 5 → f = 36 ∨ f = 37 ∨ f = 39 ∨ f = 40 ∨ f = 41 ∨ f = 48 ∨ f = 49 := by decide
  have cjf := CXJ.fin (k := 35) cj1517 cx1509.1 (by decide) (fun f9 h9 c9 => by
    have q7 := jq9 f9 h9 c9
    rcases q7 with q7 | q7 | q7 | q7 | q7 | q7 | q7
    · subst q7; rw [f1521]; exact Int.natCast_nonneg _
    · subst q7; rw [f1522]; exact Int.natCast_nonneg _
    · subst q7; rw [f1524]; exact Int.natCast_nonneg _
    · subst q7; rw [f1525]; exact Int.natCast_nonneg _
    · subst q7; rw [f1526]; exact Int.natCast_nonneg _
    · subst q7; rw [f1533]; exact Int.natCast_nonneg _
    · subst q7; rw [f1534]; exact Int.natCast_nonneg _)
  exact tn_vret rfl dX5_init_125 ⟨rfl, tT_eq, cx1509.2.1.tag cx1509.1 (by decide) hf9 (fun h => absurd h (by decide)), ⟨_, rfl, cx1509.2.2.1.tag (by rw [cx1509.1]; decide) (by decide)⟩, cx1509.2.2.2.1.tag, cx1509.2.2.2.2.1, cx1509.2.2.2.2.2, cjf.1, cjf.2, nx1504.tag, nx1505.tag, x94, [x578, x690, x807, x929, x1056, x1188, x1325], f1519, (tT_ne (ne_of o1488 cx1509.1 (by decide))).trans o1488, rfl, (DS.cons9 (DS.cons9 (DS.cons9 (DS.cons9 (DS.cons9 (DS.cons9 (DS.cons9 DS.nil9 (fun y9 h9 => absurd h9 (by simp))) (fun y9 h9 => by simp only [List.mem_cons, List.not_mem_nil, or_false] at h9; rw [h9]; first | exact dd_x1188_x1325)) (fun y9 h9 => by simp only [List.mem_cons, List.not_mem_nil, or_false] at h9; rcases h9 with h9 | h9 <;> rw [h9] <;> first | exact dd_x1056_x1188 | exact dd_x1056_x1325)) (fun y9 h9 => by simp only [List.mem_cons, List.not_mem_nil, or_false] at h9; rcases h9 with h9 | h9 | h9 <;> rw [h9] <;> first | exact dd_x929_x1056 | exact dd_x929_x1188 | exact dd_x929_x1325)) (fun y9 h9 => by simp only [List.mem_cons, List.not_mem_nil, or_false] at h9; rcases h9 with h9 | h9 | h9 | h9 <;> rw [h9] <;> first | exact dd_x807_x929 | exact dd_x807_x1056 | exact dd_x807_x1188 | exact dd_x807_x1325)) (fun y9 h9 => by simp only [List.mem_cons, List.not_mem_nil, or_false] at h9; rcases h9 with h9 | h9 | h9 | h9 | h9 <;> rw [h9] <;> first | exact dd_x690_x807 | exact dd_x690_x929 | exact dd_x690_x1056 | exact dd_x690_x1188 | exact dd_x690_x1325)) (fun y9 h9 => by simp only [List.mem_cons, List.not_mem_nil, or_false] at h9; rcases h9 with h9 | h9 | h9 | h9 | h9 | h9 <;> rw [h9] <;> first | exact dd_x578_x690 | exact dd_x578_x807 | exact dd_x578_x929 | exact dd_x578_x1056 | exact dd_x578_x1188 | exact dd_x578_x1325)), (fun i9 h9 => by
    have c9 : i9 = 0 ∨ i9 = 1 ∨ i9 = 2 ∨ i9 = 3 ∨ i9 = 4 ∨ i9 = 5 ∨ i9 = 6 := by omega
    rcases c9 with c9 | c9 | c9 | c9 | c9 | c9 | c9
    · subst c9; exact r1510
    · subst c9; exact r1511
    · subst c9; exact r1512
    · subst c9; exact r1513
    · subst c9; exact r1514
    · subst c9; exact r1515
    · subst c9; exact r1516), (fun y9 h9 => by
    simp only [List.mem_cons, List.not_mem_nil, or_false] at h9
    rcases h9 with h9 | h9 | h9 | h9 | h9 | h9 | h9
    · rw [h9]; exact ⟨by rw [tT_ne (ne_of o1496 cx1509.1 (by decide)), o1496], ne580z⟩
    · rw [h9]; exact ⟨by rw [tT_ne (ne_of o1497 cx1509.1 (by decide)), o1497], ne692z⟩
    · rw [h9]; exact ⟨by rw [tT_ne (ne_of o1498 cx1509.1 (by decide)), o1498], ne809z⟩
    · rw [h9]; exact ⟨by rw [tT_ne (ne_of o1499 cx1509.1 (by decide)), o1499], ne931z⟩
    · rw [h9]; exact ⟨by rw [tT_ne (ne_of o1500 cx1509.1 (by decide)), o1500], ne1058z⟩
    · rw [h9]; exact ⟨by rw [tT_ne (ne_of o1501 cx1509.1 (by decide)), o1501], ne1190z⟩
    · rw [h9]; exact ⟨by rw [tT_ne (ne_of o1502 cx1509.1 (by decide)), o1502], ne1327z⟩)⟩
end
section
theorem ex_at {P : Nat → Prop} {v : Int} {x : Nat} (h : ∃ y : Nat, v = (y : Int) ∧ P y) (e : v = (x : Int)) : P x := by
  obtain ⟨y, q, w⟩ := h
  have z : y = x := by omega
  rw [← z]
  exact w
theorem chx_put {x : Nat} {i y : Int} {σ τ : MS} {c : Prop} [Decidable c] (h : τ = (if c then sA (1000 + x) i y σ else σ)) : CHX [] [x] [] σ τ := by
  rw [h]
  split
  · exact CHX.rfl.arr (by simp)
  · exact CHX.rfl
end
section
set_option maxHeartbeats 1000000 in
set_option maxRecDepth 20000 in
theorem k_X7_emit_h (d : Nat) {T : CT} {σ : MS} {a : Nat} {p1 : Int} {xa : Nat} {xb : Nat} {xc : Nat} {xd : Nat} {xe : Nat} {xf : Nat} (ha : OB T a 7) (h_p1 : -2147483648 ≤ p1 ∧ p1 ≤ 2147483647) (hw : WT T σ) (hxa : σ.2.1 59 a = (xa : Int)) (hxb : σ.2.1 60 a = (xb : Int)) (hxc : σ.2.1 61 a = (xc : Int)) (hxd : σ.2.1 62 a = (xd : Int)) (hxe : σ.2.1 63 a = (xe : Int)) (hxf : σ.2.1 64 a = (xf : Int)) : Tn (d + 2) m_X7_emit 0 T σ [(0, .ref a), (1, .int (iI p1))] [] (fun ro T2 σ2 => ro = none ∧ T = T2 ∧ WT T2 σ2 ∧ FrC T [65, 66] σ σ2 ∧ (CHX [(56, a), (57, a), (58, a), (65, a), (66, a), (67, a), (68, a), (69, a), (70, a), (71, a)] [xa, xb, xc, xd, xe, xf] [] σ σ2) ∧ (FA a σ σ2)) := by
  refine tn_aload_n dX7_emit_0 rfl 0 rfl ?_
  obtain ⟨hk3, hl4⟩ : AR T xf 1 200 200 := ar_of (wf_64 hw ha) hxf
  have hk3i : IA T xf := by unfold IA; omega
  refine tn_getR (ci := 7) (i := 9) (n := 64) (x := xf) dX7_emit_1 rfl lay_7 (by decide) fl7_27 ha rfl rfl (hxf) ?_
  refine tn_aload_n dX7_emit_4 rfl 0 rfl ?_
  refine tn_getI (ci := 7) (i := 10) (n := 65) (t := σ.2.1 65 a) dX7_emit_5 rfl lay_7 (by decide) fl7_41 ha rfl rfl (rfl) ?_
  have g5 : ((-2147483648 : Int) ≤ σ.2.1 65 a ∧ σ.2.1 65 a ≤ 2147483647) := wf_65 hw ha
  refine tn_iload_n dX7_emit_8 rfl 1 rfl ?_
  refine tn_callSN (M := m_X7_emit) (pc := 9) (ix := 61) (M' := m_X11_put) (As := [.ref xf, .int (iI (σ.2.1 65 a)), .int (iI p1)]) (rest := []) dX7_emit_9 ok_X11_put stt_X11_put nl7_61 np_X11_put rfl (Nat.le_of_ble_eq_true rfl) (Nat.le_of_ble_eq_true rfl) rfl (k_X11_put_x (d) (T := T) (σ := σ) (x := xf) (i := σ.2.1 65 a) (y := p1) hk3i (by omega) (by omega) (by omega) hw (nh_k hk3 (by unfold HT; omega)) (vok_1 (by have q9 := hk3; omega) (by omega))) (fun r6 T8 σ7 gt9 hp => ?_)
  obtain ⟨rfl, rfl, w13, F14, f10, f11⟩ := hp
  clear gt9
  show Tn _ _ 12 T σ7 [(0, .ref a), (1, .int (iI p1))] [] _
  refine tn_aload_n dX7_emit_12 rfl 0 rfl ?_
  refine tn_iload_n dX7_emit_13 rfl 1 rfl ?_
  refine tn_putV (ci := 7) (i := 11) (n := 66) (r := false) (v := p1) tyX7 tyX7_ok nmX7 dX7_emit_14 rfl lay_7 (by decide) fl7_44 rfl (tyX7_ok 11 (by decide)) rfl rfl rfl ha rfl rfl ?_
  refine tn_aload_n dX7_emit_17 rfl 0 rfl ?_
  refine tn_dup dX7_emit_18 rfl ?_
  refine tn_getI (ci := 7) (i := 10) (n := 65) (t := σ.2.1 65 a) dX7_emit_19 rfl lay_7 (by decide) fl7_41 ha rfl rfl (rc_o (by decide) (rc_F F14 (Or.inl (by decide)) (by decide) (rfl))) ?_
  refine tn_iconst dX7_emit_22 ?_
  refine tn_iadd dX7_emit_23 ?_
  refine tn_any (fun z15 g16 => ?_)
  have g16r : -2147483648 ≤ z15 ∧ z15 ≤ 2147483647 := g16
  refine tn_putV (ci := 7) (i := 10) (n := 65) (r := false) (v := z15) tyX7 tyX7_ok nmX7 dX7_emit_24 rfl lay_7 (by decide) fl7_41 rfl (tyX7_ok 10 (by decide)) rfl rfl rfl ha rfl rfl ?_
  exact tn_vret rfl dX7_emit_27 ⟨rfl, rfl, ((w13.put (by decide) (by decide) (fo_66 (by omega))).put (by decide) (by decide) (fo_65 (by omega))), (((FrC.rfl.trans (FrC.sub F14 (by decide))).put (by decide) (by decide)).put (by decide) (by decide)), (((CHX.rfl.trans (CHX.sub f10 (by simp) (by simp) (by simp))).fld (by simp) (by decide)).fld (by simp) (by decide)), (((FA.rfl.trans (FA.of F14 (by decide))).put).put)⟩
end
section
set_option maxHeartbeats 1000000 in
set_option maxRecDepth 20000 in
theorem k_X7_openCall_h (d : Nat) {T : CT} {σ : MS} {a : Nat} {c : Int} {r : Int} {xa : Nat} {xb : Nat} {xc : Nat} {xd : Nat} {xe : Nat} {xf : Nat} (ha : OB T a 7) (hta : (T a).1 = 37) (h_c : -2147483648 ≤ c ∧ c ≤ 2147483647) (h_r : -2147483648 ≤ r ∧ r ≤ 2147483647) (hw : WT T σ) (hxa : σ.2.1 59 a = (xa : Int)) (hxb : σ.2.1 60 a = (xb : Int)) (hxc : σ.2.1 61 a = (xc : Int)) (hxd : σ.2.1 62 a = (xd : Int)) (hxe : σ.2.1 63 a = (xe : Int)) (hxf : σ.2.1 64 a = (xf : Int)) (h8 : 0 ≤ c ∧ c ≤ 11184800) : Tn (d + 3) m_X7_openCall 0 T σ [(0, .ref a), (1, .int (iI c)), (2, .int (iI r))] [] (fun ro T2 σ2 => ro = none ∧ T = T2 ∧ WT T2 σ2 ∧ FrC T [57, 58, 69, 515] σ σ2 ∧ (CHX [(56, a), (57, a), (58, a), (65, a), (66, a), (67, a), (68, a), (69, a), (70, a), (71, a)] [xa, xb, xc, xd, xe, xf] [] σ σ2) ∧ (σ2.2.1 57 a = c) ∧ (FA a σ σ2)) := by
  refine tn_aload_n dX7_openCall_0 rfl 0 rfl ?_
  refine tn_iload_n dX7_openCall_1 rfl 1 rfl ?_
  refine tn_putV (ci := 7) (i := 2) (n := 57) (r := false) (v := c) tyX7 tyX7_ok nmX7 dX7_openCall_2 rfl lay_7 (by decide) fl7_65 rfl (tyX7_ok 2 (by decide)) rfl rfl rfl ha rfl rfl ?_
  refine tn_aload_n dX7_openCall_5 rfl 0 rfl ?_
  refine tn_dup dX7_openCall_6 rfl ?_
  refine tn_getI (ci := 7) (i := 3) (n := 58) (t := σ.2.1 58 a) dX7_openCall_7 rfl lay_7 (by decide) fl7_38 ha rfl rfl (rc_o (by decide) (rfl)) ?_
  have g1 : ((-2147483648 : Int) ≤ σ.2.1 58 a ∧ σ.2.1 58 a ≤ 2147483647) := wf_58 hw ha
  refine tn_iconst dX7_openCall_10 ?_
  refine tn_iadd dX7_openCall_11 ?_
  refine tn_any (fun z2 g3 => ?_)
  have g3r : -2147483648 ≤ z2 ∧ z2 ≤ 2147483647 := g3
  refine tn_putV (ci := 7) (i := 3) (n := 58) (r := false) (v := z2) tyX7 tyX7_ok nmX7 dX7_openCall_12 rfl lay_7 (by decide) fl7_38 rfl (tyX7_ok 3 (by decide)) rfl rfl rfl ha rfl rfl ?_
  refine tn_aload_n dX7_openCall_15 rfl 0 rfl ?_
  refine tn_aload_n dX7_openCall_16 rfl 0 rfl ?_
  refine tn_iload_n dX7_openCall_17 rfl 2 rfl ?_
  refine tn_callV (M := m_X7_openCall) (pc := 18) (ix := 68) (ci := 7) (M' := m_X7_codeAt) (As := [.int (iI r)]) (rest := [.ref a]) dX7_openCall_18 ok_X7_codeAt im_X7_codeAt se_X7_codeAt ml7_68 np_X7_codeAt rfl rfl ha rfl (Nat.le_of_ble_eq_true rfl) (Nat.le_of_ble_eq_true rfl) rfl (k_X7_codeAt (d + 1) (T := T) (σ := (sA 58 a (z2) (sA 57 a (c) σ))) (a := a) (r := r) ha (by omega) ((hw.put (by decide) (by decide) (fo_57 ⟨by omega, by omega⟩)).put (by decide) (by decide) (fo_58 (by omega))) ) (fun r4 T6 σ5 gt7 hp => ?_)
  obtain ⟨v9, rfl, rfl, rfl, rv10, f8⟩ := hp
  clear gt7
  clear f8
  rcases rv10 with rv10 | ⟨xq11, rfl, hk12⟩
  · show Tn _ _ 21 T (sA 58 a (z2) (sA 57 a (c) σ)) [(0, .ref a), (1, .int (iI c)), (2, .int (iI r))] (vl true v9 :: [.ref a]) _
    rw [vl_null rv10]
    refine tn_putV (ci := 7) (i := 14) (n := 69) (r := true) (v := -1) tyX7 tyX7_ok nmX7 dX7_openCall_21 rfl lay_7 (by decide) fl7_72 rfl (tyX7_ok 14 (by decide)) (vl_null (by decide)).symm rfl rfl ha rfl rfl ?_
    refine tn_aload_n dX7_openCall_24 rfl 0 rfl ?_
    obtain ⟨hk15, hl16⟩ : AR T xa 15 9 9 := ar_of (wf_59 hw ha) hxa
    have hk15i : IA T xa := by unfold IA; omega
    refine tn_getR (ci := 7) (i := 4) (n := 59) (x := xa) dX7_openCall_25 rfl lay_7 (by decide) fl7_9 ha rfl rfl (rc_o (by decide) (rc_o (by decide) (rc_o (by decide) (hxa)))) ?_
    refine tn_iload_n dX7_openCall_28 rfl 1 rfl ?_
    refine tn_iload_n dX7_openCall_29 rfl 2 rfl ?_
    refine tn_callSN (M := m_X7_openCall) (pc := 30) (ix := 61) (M' := m_X11_put) (As := [.ref xa, .int (iI c), .int (iI r)]) (rest := []) dX7_openCall_30 ok_X11_put stt_X11_put nl7_61 np_X11_put rfl (Nat.le_of_ble_eq_true rfl) (Nat.le_of_ble_eq_true rfl) rfl (k_X11_put_15 (d + 1) (T := T) (σ := (sA 69 a (-1) (sA 58 a (z2) (sA 57 a (c) σ)))) (x := xa) (i := c) (y := r) hk15i (by omega) hk15 (by omega) (by omega) (((hw.put (by decide) (by decide) (fo_57 ⟨by omega, by omega⟩)).put (by decide) (by decide) (fo_58 (by omega))).put (by decide) (by decide) (fo_69 (Or.inl (by decide)))) ) (fun r17 T19 σ18 gt20 hp => ?_)
    obtain ⟨rfl, rfl, w23, F24, f21⟩ := hp
    clear gt20
    show Tn _ _ 33 T σ18 [(0, .ref a), (1, .int (iI c)), (2, .int (iI r))] [] _
    refine tn_aload_n dX7_openCall_33 rfl 0 rfl ?_
    obtain ⟨hk27, hl28⟩ : AR T xb 1 9 9 := ar_of (wf_60 hw ha) hxb
    have hk27i : IA T xb := by unfold IA; omega
    refine tn_getR (ci := 7) (i := 5) (n := 60) (x := xb) dX7_openCall_34 rfl lay_7 (by decide) fl7_15 ha rfl rfl (rc_F F24 (Or.inl (by decide)) (by decide) (rc_o (by decide) (rc_o (by decide) (rc_o (by decide) (hxb))))) ?_
    refine tn_iload_n dX7_openCall_37 rfl 1 rfl ?_
    refine tn_iconst dX7_openCall_38 ?_
    refine tn_callSN (M := m_X7_openCall) (pc := 39) (ix := 61) (M' := m_X11_put) (As := [.ref xb, .int (iI c), .int (iI 0)]) (rest := []) dX7_openCall_39 ok_X11_put stt_X11_put nl7_61 np_X11_put rfl (Nat.le_of_ble_eq_true rfl) (Nat.le_of_ble_eq_true rfl) rfl (k_X11_put_x (d + 1) (T := T) (σ := σ18) (x := xb) (i := c) (y := 0) hk27i (by omega) (by omega) (by decide) w23 (nh_k hk27 (by unfold HT; omega)) vok_0) (fun r29 T31 σ30 gt32 hp => ?_)
    obtain ⟨rfl, rfl, w36, F37, f33, f34⟩ := hp
    clear gt32
    show Tn _ _ 42 T σ30 [(0, .ref a), (1, .int (iI c)), (2, .int (iI r))] [] _
    refine tn_aload_n dX7_openCall_42 rfl 0 rfl ?_
    obtain ⟨hl41, hk40a, hk40b⟩ := ex_at (wf_61 hw ha) hxc
    have hk40 : (T xc).1 = 1 := hk40b (by omega)
    clear hk40a hk40b
    have hk40i : IA T xc := by unfold IA; omega
    refine tn_getR (ci := 7) (i := 6) (n := 61) (x := xc) dX7_openCall_43 rfl lay_7 (by decide) fl7_18 ha rfl rfl (rc_F F37 (Or.inl (by decide)) (by decide) (rc_F F24 (Or.inl (by decide)) (by decide) (rc_o (by decide) (rc_o (by decide) (rc_o (by decide) (hxc)))))) ?_
    refine tn_iload_n dX7_openCall_46 rfl 1 rfl ?_
    refine tn_iconst dX7_openCall_47 ?_
    refine tn_callSN (M := m_X7_openCall) (pc := 48) (ix := 61) (M' := m_X11_put) (As := [.ref xc, .int (iI c), .int (iI 0)]) (rest := []) dX7_openCall_48 ok_X11_put stt_X11_put nl7_61 np_X11_put rfl (Nat.le_of_ble_eq_true rfl) (Nat.le_of_ble_eq_true rfl) rfl (k_X11_put_x (d + 1) (T := T) (σ := σ30) (x := xc) (i := c) (y := 0) hk40i (by omega) (by omega) (by decide) w36 (nh_k hk40 (by unfold HT; omega)) vok_0) (fun r42 T44 σ43 gt45 hp => ?_)
    obtain ⟨rfl, rfl, w49, F50, f46, f47⟩ := hp
    clear gt45
    show Tn _ _ 51 T σ43 [(0, .ref a), (1, .int (iI c)), (2, .int (iI r))] [] _
    refine tn_aload_n dX7_openCall_51 rfl 0 rfl ?_
    obtain ⟨hk53, hl54⟩ : AR T xd 1 108 108 := ar_of (wf_62 hw ha) hxd
    have hk53i : IA T xd := by unfold IA; omega
    refine tn_getR (ci := 7) (i := 7) (n := 62) (x := xd) dX7_openCall_52 rfl lay_7 (by decide) fl7_21 ha rfl rfl (rc_F F50 (Or.inl (by decide)) (by decide) (rc_F F37 (Or.inl (by decide)) (by decide) (rc_F F24 (Or.inl (by decide)) (by decide) (rc_o (by decide) (rc_o (by decide) (rc_o (by decide) (hxd))))))) ?_
    refine tn_iload_n dX7_openCall_55 rfl 1 rfl ?_
    refine tn_bipush dX7_openCall_56 (by decide) ?_
    refine tn_imul dX7_openCall_58 ?_
    refine tn_iconst dX7_openCall_59 ?_
    refine tn_callSN (M := m_X7_openCall) (pc := 60) (ix := 61) (M' := m_X11_put) (As := [.ref xd, .int (iI (c * 12)), .int (iI 0)]) (rest := []) dX7_openCall_60 ok_X11_put stt_X11_put nl7_61 np_X11_put rfl (Nat.le_of_ble_eq_true rfl) (Nat.le_of_ble_eq_true rfl) rfl (k_X11_put_x (d + 1) (T := T) (σ := σ43) (x := xd) (i := c * 12) (y := 0) hk53i (by omega) (by omega) (by decide) w49 (nh_k hk53 (by unfold HT; omega)) vok_0) (fun r55 T57 σ56 gt58 hp => ?_)
    obtain ⟨rfl, rfl, w62, F63, f59, f60⟩ := hp
    clear gt58
    show Tn _ _ 63 T σ56 [(0, .ref a), (1, .int (iI c)), (2, .int (iI r))] [] _
    refine tn_iload_n dX7_openCall_63 rfl 1 rfl ?_
    refine tn_sipush dX7_openCall_64 (by decide) ?_
    refine tn_imul dX7_openCall_67 ?_
    refine tn_istore_n (L' := [(3, .int (iI (c * 192))), (0, .ref a), (1, .int (iI c)), (2, .int (iI r))]) dX7_openCall_68 rfl (by decide) rfl ?_
    refine tn_iload_n dX7_openCall_69 rfl 0 rfl ?_
    refine tn_if_lt (tgt := 100) dX7_openCall_70 (by decide) ⟨by omega, by omega⟩ (fun h64 => absurd h64 (by omega)) (fun h64 => ?_)
    refine tn_iload_n dX7_openCall_73 rfl 0 rfl ?_
    refine tn_sipush dX7_openCall_74 (by decide) ?_
    refine tn_iadd dX7_openCall_77 ?_
    refine tn_aload_n dX7_openCall_78 rfl 1 rfl ?_
    obtain ⟨hk67, hl68⟩ : AR T xe 1 1728 1728 := ar_of (wf_63 hw ha) hxe
    have hk67i : IA T xe := by unfold IA; omega
    refine tn_getR (ci := 7) (i := 8) (n := 63) (x := xe) dX7_openCall_79 rfl lay_7 (by decide) fl7_24 ha rfl rfl (rc_F F63 (Or.inl (by decide)) (by decide) (rc_F F50 (Or.inl (by decide)) (by decide) (rc_F F37 (Or.inl (by decide)) (by decide) (rc_F F24 (Or.inl (by decide)) (by decide) (rc_o (by decide) (rc_o (by decide) (rc_o (by decide) (hxe)))))))) ?_
    refine tn_alenX dX7_openCall_82 (Or.inl hk67i) ?_
    refine tn_icmp_gt (tgt := 100) dX7_openCall_83 (by decide) ⟨by omega, by omega⟩ ⟨by omega, by omega⟩ (fun h69 => ?_) (fun h69 => ?_)
    · have q70 : σ56.2.1 57 a = c := rc_F F63 (Or.inl (by decide)) (by decide) (rc_F F50 (Or.inl (by decide)) (by decide) (rc_F F37 (Or.inl (by decide)) (by decide) (rc_F F24 (Or.inl (by decide)) (by decide) (rc_o (by decide) (rc_o (by decide) (ra_eq))))))
      exact tn_vret rfl dX7_openCall_100 ⟨rfl, rfl, w62, (((((((FrC.rfl.put (by decide) (by decide)).put (by decide) (by decide)).put (by decide) (by decide)).trans (FrC.sub F24 (by decide))).trans (FrC.sub F37 (by decide))).trans (FrC.sub F50 (by decide))).trans (FrC.sub F63 (by decide))), (((((((CHX.rfl.fld (by simp) (by decide)).fld (by simp) (by decide)).fld (by simp) (by decide)).trans (CHX.sub (chx_put f21) (by simp) (by simp) (by simp))).trans (CHX.sub f33 (by simp) (by simp) (by simp))).trans (CHX.sub f46 (by simp) (by simp) (by simp))).trans (CHX.sub f59 (by simp) (by simp) (by simp))), by omega, (((((((FA.rfl.put).put).put).trans (FA.of F24 (by decide))).trans (FA.of F37 (by decide))).trans (FA.of F50 (by decide))).trans (FA.of F63 (by decide)))⟩
    · refine tn_aload_n dX7_openCall_86 rfl 1 rfl ?_
      refine tn_getR (ci := 7) (i := 8) (n := 63) (x := xe) dX7_openCall_87 rfl lay_7 (by decide) fl7_24 ha rfl rfl (rc_F F63 (Or.inl (by decide)) (by decide) (rc_F F50 (Or.inl (by decide)) (by decide) (rc_F F37 (Or.inl (by decide)) (by decide) (rc_F F24 (Or.inl (by decide)) (by decide) (rc_o (by decide) (rc_o (by decide) (rc_o (by decide) (hxe)))))))) ?_
      refine tn_iload_n dX7_openCall_90 rfl 0 rfl ?_
      refine tn_iload_n dX7_openCall_91 rfl 0 rfl ?_
      refine tn_sipush dX7_openCall_92 (by decide) ?_
      refine tn_iadd dX7_openCall_95 ?_
      refine tn_iconst dX7_openCall_96 ?_
      refine tn_callS (M := m_X7_openCall) (pc := 97) (ix := 76) (M' := m_J7_fill_fda19) (As := [.ref xe, .int (iI (c * 192)), .int (iI ((c * 192) + 192)), .int (iI 0)]) (rest := []) dX7_openCall_97 ok_J7_fill_fda19 stt_J7_fill_fda19 ml7_76 np_J7_fill_fda19 rfl (Nat.le_of_ble_eq_true rfl) (Nat.le_of_ble_eq_true rfl) rfl (k_J7_fill_fda19_x (d) (T := T) (σ := σ56) (x := xe) (f := c * 192) (t := (c * 192) + 192) (y := 0) hk67i (by omega) (by omega) (by omega) (by decide) w62 (nh_k hk67 (by unfold HT; omega)) (by omega) (by omega)) (fun r71 T73 σ72 gt74 hp => ?_)
      obtain ⟨rfl, rfl, w78, F79, f75, f76⟩ := hp
      clear gt74
      show Tn _ _ 100 T σ72 [(3, .int (iI (c * 192))), (0, .ref a), (1, .int (iI c)), (2, .int (iI r))] [] _
      have q80 : σ72.2.1 57 a = c := rc_F F79 (Or.inl (by decide)) (by decide) (rc_F F63 (Or.inl (by decide)) (by decide) (rc_F F50 (Or.inl (by decide)) (by decide) (rc_F F37 (Or.inl (by decide)) (by decide) (rc_F F24 (Or.inl (by decide)) (by decide) (rc_o (by decide) (rc_o (by decide) (ra_eq)))))))
      exact tn_vret rfl dX7_openCall_100 ⟨rfl, rfl, w78, ((((((((FrC.rfl.put (by decide) (by decide)).put (by decide) (by decide)).put (by decide) (by decide)).trans (FrC.sub F24 (by decide))).trans (FrC.sub F37 (by decide))).trans (FrC.sub F50 (by decide))).trans (FrC.sub F63 (by decide))).trans (FrC.sub F79 (by decide))), ((((((((CHX.rfl.fld (by simp) (by decide)).fld (by simp) (by decide)).fld (by simp) (by decide)).trans (CHX.sub (chx_put f21) (by simp) (by simp) (by simp))).trans (CHX.sub f33 (by simp) (by simp) (by simp))).trans (CHX.sub f46 (by simp) (by simp) (by simp))).trans (CHX.sub f59 (by simp) (by simp) (by simp))).trans (CHX.sub f75 (by simp) (by simp) (by simp))), by omega, ((((((((FA.rfl.put).put).put).trans (FA.of F24 (by decide))).trans (FA.of F37 (by decide))).trans (FA.of F50 (by decide))).trans (FA.of F63 (by decide))).trans (FA.of F79 (by decide)))⟩
  · show Tn _ _ 21 T (sA 58 a (z2) (sA 57 a (c) σ)) [(0, .ref a), (1, .int (iI c)), (2, .int (iI r))] (vl true (xq11 : Int) :: [.ref a]) _
    rw [vl_ref rfl]
    have hk12o : OB T xq11 1 := hk12.1
    refine tn_putV (ci := 7) (i := 14) (n := 69) (r := true) (v := (xq11 : Int)) tyX7 tyX7_ok nmX7 dX7_openCall_21 rfl lay_7 (by decide) fl7_72 rfl (tyX7_ok 14 (by decide)) (vl_ref rfl).symm rfl rfl ha rfl rfl ?_
    refine tn_aload_n dX7_openCall_24 rfl 0 rfl ?_
    obtain ⟨hk83, hl84⟩ : AR T xa 15 9 9 := ar_of (wf_59 hw ha) hxa
    have hk83i : IA T xa := by unfold IA; omega
    refine tn_getR (ci := 7) (i := 4) (n := 59) (x := xa) dX7_openCall_25 rfl lay_7 (by decide) fl7_9 ha rfl rfl (rc_o (by decide) (rc_o (by decide) (rc_o (by decide) (hxa)))) ?_
    refine tn_iload_n dX7_openCall_28 rfl 1 rfl ?_
    refine tn_iload_n dX7_openCall_29 rfl 2 rfl ?_
    refine tn_callSN (M := m_X7_openCall) (pc := 30) (ix := 61) (M' := m_X11_put) (As := [.ref xa, .int (iI c), .int (iI r)]) (rest := []) dX7_openCall_30 ok_X11_put stt_X11_put nl7_61 np_X11_put rfl (Nat.le_of_ble_eq_true rfl) (Nat.le_of_ble_eq_true rfl) rfl (k_X11_put_15 (d + 1) (T := T) (σ := (sA 69 a ((xq11 : Int)) (sA 58 a (z2) (sA 57 a (c) σ)))) (x := xa) (i := c) (y := r) hk83i (by omega) hk83 (by omega) (by omega) (((hw.put (by decide) (by decide) (fo_57 ⟨by omega, by omega⟩)).put (by decide) (by decide) (fo_58 (by omega))).put (by decide) (by decide) (fo_69 (Or.inr ⟨_, rfl, hk12.2.1, hk12.2.2⟩))) ) (fun r85 T87 σ86 gt88 hp => ?_)
    obtain ⟨rfl, rfl, w91, F92, f89⟩ := hp
    clear gt88
    show Tn _ _ 33 T σ86 [(0, .ref a), (1, .int (iI c)), (2, .int (iI r))] [] _
    refine tn_aload_n dX7_openCall_33 rfl 0 rfl ?_
    obtain ⟨hk95, hl96⟩ : AR T xb 1 9 9 := ar_of (wf_60 hw ha) hxb
    have hk95i : IA T xb := by unfold IA; omega
    refine tn_getR (ci := 7) (i := 5) (n := 60) (x := xb) dX7_openCall_34 rfl lay_7 (by decide) fl7_15 ha rfl rfl (rc_F F92 (Or.inl (by decide)) (by decide) (rc_o (by decide) (rc_o (by decide) (rc_o (by decide) (hxb))))) ?_
    refine tn_iload_n dX7_openCall_37 rfl 1 rfl ?_
    refine tn_iconst dX7_openCall_38 ?_
    refine tn_callSN (M := m_X7_openCall) (pc := 39) (ix := 61) (M' := m_X11_put) (As := [.ref xb, .int (iI c), .int (iI 0)]) (rest := []) dX7_openCall_39 ok_X11_put stt_X11_put nl7_61 np_X11_put rfl (Nat.le_of_ble_eq_true rfl) (Nat.le_of_ble_eq_true rfl) rfl (k_X11_put_x (d + 1) (T := T) (σ := σ86) (x := xb) (i := c) (y := 0) hk95i (by omega) (by omega) (by decide) w91 (nh_k hk95 (by unfold HT; omega)) vok_0) (fun r97 T99 σ98 gt100 hp => ?_)
    obtain ⟨rfl, rfl, w104, F105, f101, f102⟩ := hp
    clear gt100
    show Tn _ _ 42 T σ98 [(0, .ref a), (1, .int (iI c)), (2, .int (iI r))] [] _
    refine tn_aload_n dX7_openCall_42 rfl 0 rfl ?_
    obtain ⟨hl109, hk108a, hk108b⟩ := ex_at (wf_61 hw ha) hxc
    have hk108 : (T xc).1 = 1 := hk108b (by omega)
    clear hk108a hk108b
    have hk108i : IA T xc := by unfold IA; omega
    refine tn_getR (ci := 7) (i := 6) (n := 61) (x := xc) dX7_openCall_43 rfl lay_7 (by decide) fl7_18 ha rfl rfl (rc_F F105 (Or.inl (by decide)) (by decide) (rc_F F92 (Or.inl (by decide)) (by decide) (rc_o (by decide) (rc_o (by decide) (rc_o (by decide) (hxc)))))) ?_
    refine tn_iload_n dX7_openCall_46 rfl 1 rfl ?_
    refine tn_iconst dX7_openCall_47 ?_
    refine tn_callSN (M := m_X7_openCall) (pc := 48) (ix := 61) (M' := m_X11_put) (As := [.ref xc, .int (iI c), .int (iI 0)]) (rest := []) dX7_openCall_48 ok_X11_put stt_X11_put nl7_61 np_X11_put rfl (Nat.le_of_ble_eq_true rfl) (Nat.le_of_ble_eq_true rfl) rfl (k_X11_put_x (d + 1) (T := T) (σ := σ98) (x := xc) (i := c) (y := 0) hk108i (by omega) (by omega) (by decide) w104 (nh_k hk108 (by unfold HT; omega)) vok_0) (fun r110 T112 σ111 gt113 hp => ?_)
    obtain ⟨rfl, rfl, w117, F118, f114, f115⟩ := hp
    clear gt113
    show Tn _ _ 51 T σ111 [(0, .ref a), (1, .int (iI c)), (2, .int (iI r))] [] _
    refine tn_aload_n dX7_openCall_51 rfl 0 rfl ?_
    obtain ⟨hk121, hl122⟩ : AR T xd 1 108 108 := ar_of (wf_62 hw ha) hxd
    have hk121i : IA T xd := by unfold IA; omega
    refine tn_getR (ci := 7) (i := 7) (n := 62) (x := xd) dX7_openCall_52 rfl lay_7 (by decide) fl7_21 ha rfl rfl (rc_F F118 (Or.inl (by decide)) (by decide) (rc_F F105 (Or.inl (by decide)) (by decide) (rc_F F92 (Or.inl (by decide)) (by decide) (rc_o (by decide) (rc_o (by decide) (rc_o (by decide) (hxd))))))) ?_
    refine tn_iload_n dX7_openCall_55 rfl 1 rfl ?_
    refine tn_bipush dX7_openCall_56 (by decide) ?_
    refine tn_imul dX7_openCall_58 ?_
    refine tn_iconst dX7_openCall_59 ?_
    refine tn_callSN (M := m_X7_openCall) (pc := 60) (ix := 61) (M' := m_X11_put) (As := [.ref xd, .int (iI (c * 12)), .int (iI 0)]) (rest := []) dX7_openCall_60 ok_X11_put stt_X11_put nl7_61 np_X11_put rfl (Nat.le_of_ble_eq_true rfl) (Nat.le_of_ble_eq_true rfl) rfl (k_X11_put_x (d + 1) (T := T) (σ := σ111) (x := xd) (i := c * 12) (y := 0) hk121i (by omega) (by omega) (by decide) w117 (nh_k hk121 (by unfold HT; omega)) vok_0) (fun r123 T125 σ124 gt126 hp => ?_)
    obtain ⟨rfl, rfl, w130, F131, f127, f128⟩ := hp
    clear gt126
    show Tn _ _ 63 T σ124 [(0, .ref a), (1, .int (iI c)), (2, .int (iI r))] [] _
    refine tn_iload_n dX7_openCall_63 rfl 1 rfl ?_
    refine tn_sipush dX7_openCall_64 (by decide) ?_
    refine tn_imul dX7_openCall_67 ?_
    refine tn_istore_n (L' := [(3, .int (iI (c * 192))), (0, .ref a), (1, .int (iI c)), (2, .int (iI r))]) dX7_openCall_68 rfl (by decide) rfl ?_
    refine tn_iload_n dX7_openCall_69 rfl 0 rfl ?_
    refine tn_if_lt (tgt := 100) dX7_openCall_70 (by decide) ⟨by omega, by omega⟩ (fun h132 => absurd h132 (by omega)) (fun h132 => ?_)
    refine tn_iload_n dX7_openCall_73 rfl 0 rfl ?_
    refine tn_sipush dX7_openCall_74 (by decide) ?_
    refine tn_iadd dX7_openCall_77 ?_
    refine tn_aload_n dX7_openCall_78 rfl 1 rfl ?_
    obtain ⟨hk135, hl136⟩ : AR T xe 1 1728 1728 := ar_of (wf_63 hw ha) hxe
    have hk135i : IA T xe := by unfold IA; omega
    refine tn_getR (ci := 7) (i := 8) (n := 63) (x := xe) dX7_openCall_79 rfl lay_7 (by decide) fl7_24 ha rfl rfl (rc_F F131 (Or.inl (by decide)) (by decide) (rc_F F118 (Or.inl (by decide)) (by decide) (rc_F F105 (Or.inl (by decide)) (by decide) (rc_F F92 (Or.inl (by decide)) (by decide) (rc_o (by decide) (rc_o (by decide) (rc_o (by decide) (hxe)))))))) ?_
    refine tn_alenX dX7_openCall_82 (Or.inl hk135i) ?_
    refine tn_icmp_gt (tgt := 100) dX7_openCall_83 (by decide) ⟨by omega, by omega⟩ ⟨by omega, by omega⟩ (fun h137 => ?_) (fun h137 => ?_)
    · have q138 : σ124.2.1 57 a = c := rc_F F131 (Or.inl (by decide)) (by decide) (rc_F F118 (Or.inl (by decide)) (by decide) (rc_F F105 (Or.inl (by decide)) (by decide) (rc_F F92 (Or.inl (by decide)) (by decide) (rc_o (by decide) (rc_o (by decide) (ra_eq))))))
      exact tn_vret rfl dX7_openCall_100 ⟨rfl, rfl, w130, (((((((FrC.rfl.put (by decide) (by decide)).put (by decide) (by decide)).put (by decide) (by decide)).trans (FrC.sub F92 (by decide))).trans (FrC.sub F105 (by decide))).trans (FrC.sub F118 (by decide))).trans (FrC.sub F131 (by decide))), (((((((CHX.rfl.fld (by simp) (by decide)).fld (by simp) (by decide)).fld (by simp) (by decide)).trans (CHX.sub (chx_put f89) (by simp) (by simp) (by simp))).trans (CHX.sub f101 (by simp) (by simp) (by simp))).trans (CHX.sub f114 (by simp) (by simp) (by simp))).trans (CHX.sub f127 (by simp) (by simp) (by simp))), by omega, (((((((FA.rfl.put).put).put).trans (FA.of F92 (by decide))).trans (FA.of F105 (by decide))).trans (FA.of F118 (by decide))).trans (FA.of F131 (by decide)))⟩
    · refine tn_aload_n dX7_openCall_86 rfl 1 rfl ?_
      refine tn_getR (ci := 7) (i := 8) (n := 63) (x := xe) dX7_openCall_87 rfl lay_7 (by decide) fl7_24 ha rfl rfl (rc_F F131 (Or.inl (by decide)) (by decide) (rc_F F118 (Or.inl (by decide)) (by decide) (rc_F F105 (Or.inl (by decide)) (by decide) (rc_F F92 (Or.inl (by decide)) (by decide) (rc_o (by decide) (rc_o (by decide) (rc_o (by decide) (hxe)))))))) ?_
      refine tn_iload_n dX7_openCall_90 rfl 0 rfl ?_
      refine tn_iload_n dX7_openCall_91 rfl 0 rfl ?_
      refine tn_sipush dX7_openCall_92 (by decide) ?_
      refine tn_iadd dX7_openCall_95 ?_
      refine tn_iconst dX7_openCall_96 ?_
      refine tn_callS (M := m_X7_openCall) (pc := 97) (ix := 76) (M' := m_J7_fill_fda19) (As := [.ref xe, .int (iI (c * 192)), .int (iI ((c * 192) + 192)), .int (iI 0)]) (rest := []) dX7_openCall_97 ok_J7_fill_fda19 stt_J7_fill_fda19 ml7_76 np_J7_fill_fda19 rfl (Nat.le_of_ble_eq_true rfl) (Nat.le_of_ble_eq_true rfl) rfl (k_J7_fill_fda19_x (d) (T := T) (σ := σ124) (x := xe) (f := c * 192) (t := (c * 192) + 192) (y := 0) hk135i (by omega) (by omega) (by omega) (by decide) w130 (nh_k hk135 (by unfold HT; omega)) (by omega) (by omega)) (fun r139 T141 σ140 gt142 hp => ?_)
      obtain ⟨rfl, rfl, w146, F147, f143, f144⟩ := hp
      clear gt142
      show Tn _ _ 100 T σ140 [(3, .int (iI (c * 192))), (0, .ref a), (1, .int (iI c)), (2, .int (iI r))] [] _
      have q148 : σ140.2.1 57 a = c := rc_F F147 (Or.inl (by decide)) (by decide) (rc_F F131 (Or.inl (by decide)) (by decide) (rc_F F118 (Or.inl (by decide)) (by decide) (rc_F F105 (Or.inl (by decide)) (by decide) (rc_F F92 (Or.inl (by decide)) (by decide) (rc_o (by decide) (rc_o (by decide) (ra_eq)))))))
      exact tn_vret rfl dX7_openCall_100 ⟨rfl, rfl, w146, ((((((((FrC.rfl.put (by decide) (by decide)).put (by decide) (by decide)).put (by decide) (by decide)).trans (FrC.sub F92 (by decide))).trans (FrC.sub F105 (by decide))).trans (FrC.sub F118 (by decide))).trans (FrC.sub F131 (by decide))).trans (FrC.sub F147 (by decide))), ((((((((CHX.rfl.fld (by simp) (by decide)).fld (by simp) (by decide)).fld (by simp) (by decide)).trans (CHX.sub (chx_put f89) (by simp) (by simp) (by simp))).trans (CHX.sub f101 (by simp) (by simp) (by simp))).trans (CHX.sub f114 (by simp) (by simp) (by simp))).trans (CHX.sub f127 (by simp) (by simp) (by simp))).trans (CHX.sub f143 (by simp) (by simp) (by simp))), by omega, ((((((((FA.rfl.put).put).put).trans (FA.of F92 (by decide))).trans (FA.of F105 (by decide))).trans (FA.of F118 (by decide))).trans (FA.of F131 (by decide))).trans (FA.of F147 (by decide)))⟩
end
section
set_option maxHeartbeats 1000000 in
set_option maxRecDepth 20000 in
theorem k_X7_openCall_h57 (d : Nat) {T : CT} {σ : MS} {a : Nat} {c : Int} {r : Int} {xa : Nat} {xb : Nat} {xc : Nat} {xd : Nat} {xe : Nat} {xf : Nat} (ha : OB T a 7) (hta : (T a).1 = 57) (h_c : -2147483648 ≤ c ∧ c ≤ 2147483647) (h_r : -2147483648 ≤ r ∧ r ≤ 2147483647) (hw : WT T σ) (hxa : σ.2.1 59 a = (xa : Int)) (hxb : σ.2.1 60 a = (xb : Int)) (hxc : σ.2.1 61 a = (xc : Int)) (hxd : σ.2.1 62 a = (xd : Int)) (hxe : σ.2.1 63 a = (xe : Int)) (hxf : σ.2.1 64 a = (xf : Int)) (h8 : 0 ≤ c ∧ c ≤ 8) (hd : 0 ≤ σ.2.1 58 a ∧ σ.2.1 58 a ≤ 100) : Tn (d + 3) m_X7_openCall 0 T σ [(0, .ref a), (1, .int (iI c)), (2, .int (iI r))] [] (fun ro T2 σ2 => ro = none ∧ T = T2 ∧ WT T2 σ2 ∧ FrC T [57, 58, 69, 515] σ σ2 ∧ (CHX [(56, a), (57, a), (58, a), (65, a), (66, a), (67, a), (68, a), (69, a), (70, a), (71, a)] [xa, xb, xc, xd, xe, xf] [] σ σ2) ∧ (σ2.2.1 57 a = c) ∧ (σ2.2.1 58 a = σ.2.1 58 a + 1) ∧ (FA a σ σ2)) := by
  refine tn_aload_n dX7_openCall_0 rfl 0 rfl ?_
  refine tn_iload_n dX7_openCall_1 rfl 1 rfl ?_
  refine tn_putV (ci := 7) (i := 2) (n := 57) (r := false) (v := c) tyX7 tyX7_ok nmX7 dX7_openCall_2 rfl lay_7 (by decide) fl7_65 rfl (tyX7_ok 2 (by decide)) rfl rfl rfl ha rfl rfl ?_
  refine tn_aload_n dX7_openCall_5 rfl 0 rfl ?_
  refine tn_dup dX7_openCall_6 rfl ?_
  refine tn_getI (ci := 7) (i := 3) (n := 58) (t := σ.2.1 58 a) dX7_openCall_7 rfl lay_7 (by decide) fl7_38 ha rfl rfl (rc_o (by decide) (rfl)) ?_
  have g1 : ((-2147483648 : Int) ≤ σ.2.1 58 a ∧ σ.2.1 58 a ≤ 2147483647) := wf_58 hw ha
  refine tn_iconst dX7_openCall_10 ?_
  refine tn_iadd dX7_openCall_11 ?_
  refine tn_putV (ci := 7) (i := 3) (n := 58) (r := false) (v := (σ.2.1 58 a) + 1) tyX7 tyX7_ok nmX7 dX7_openCall_12 rfl lay_7 (by decide) fl7_38 rfl (tyX7_ok 3 (by decide)) rfl rfl rfl ha rfl rfl ?_
  refine tn_aload_n dX7_openCall_15 rfl 0 rfl ?_
  refine tn_aload_n dX7_openCall_16 rfl 0 rfl ?_
  refine tn_iload_n dX7_openCall_17 rfl 2 rfl ?_
  refine tn_callV (M := m_X7_openCall) (pc := 18) (ix := 68) (ci := 7) (M' := m_X7_codeAt) (As := [.int (iI r)]) (rest := [.ref a]) dX7_openCall_18 ok_X7_codeAt im_X7_codeAt se_X7_codeAt ml7_68 np_X7_codeAt rfl rfl ha rfl (Nat.le_of_ble_eq_true rfl) (Nat.le_of_ble_eq_true rfl) rfl (k_X7_codeAt (d + 1) (T := T) (σ := (sA 58 a ((σ.2.1 58 a) + 1) (sA 57 a (c) σ))) (a := a) (r := r) ha (by omega) ((hw.put (by decide) (by decide) (fo_57 ⟨by omega, by omega⟩)).put (by decide) (by decide) (fo_58 (by omega))) ) (fun r2 T4 σ3 gt5 hp => ?_)
  obtain ⟨v7, rfl, rfl, rfl, rv8, f6⟩ := hp
  clear gt5
  clear f6
  rcases rv8 with rv8 | ⟨xq9, rfl, hk10⟩
  · show Tn _ _ 21 T (sA 58 a ((σ.2.1 58 a) + 1) (sA 57 a (c) σ)) [(0, .ref a), (1, .int (iI c)), (2, .int (iI r))] (vl true v7 :: [.ref a]) _
    rw [vl_null rv8]
    refine tn_putV (ci := 7) (i := 14) (n := 69) (r := true) (v := -1) tyX7 tyX7_ok nmX7 dX7_openCall_21 rfl lay_7 (by decide) fl7_72 rfl (tyX7_ok 14 (by decide)) (vl_null (by decide)).symm rfl rfl ha rfl rfl ?_
    refine tn_aload_n dX7_openCall_24 rfl 0 rfl ?_
    obtain ⟨hk13, hl14⟩ : AR T xa 15 9 9 := ar_of (wf_59 hw ha) hxa
    have hk13i : IA T xa := by unfold IA; omega
    refine tn_getR (ci := 7) (i := 4) (n := 59) (x := xa) dX7_openCall_25 rfl lay_7 (by decide) fl7_9 ha rfl rfl (rc_o (by decide) (rc_o (by decide) (rc_o (by decide) (hxa)))) ?_
    refine tn_iload_n dX7_openCall_28 rfl 1 rfl ?_
    refine tn_iload_n dX7_openCall_29 rfl 2 rfl ?_
    refine tn_callSN (M := m_X7_openCall) (pc := 30) (ix := 61) (M' := m_X11_put) (As := [.ref xa, .int (iI c), .int (iI r)]) (rest := []) dX7_openCall_30 ok_X11_put stt_X11_put nl7_61 np_X11_put rfl (Nat.le_of_ble_eq_true rfl) (Nat.le_of_ble_eq_true rfl) rfl (k_X11_put_15 (d + 1) (T := T) (σ := (sA 69 a (-1) (sA 58 a ((σ.2.1 58 a) + 1) (sA 57 a (c) σ)))) (x := xa) (i := c) (y := r) hk13i (by omega) hk13 (by omega) (by omega) (((hw.put (by decide) (by decide) (fo_57 ⟨by omega, by omega⟩)).put (by decide) (by decide) (fo_58 (by omega))).put (by decide) (by decide) (fo_69 (Or.inl (by decide)))) ) (fun r15 T17 σ16 gt18 hp => ?_)
    obtain ⟨rfl, rfl, w21, F22, f19⟩ := hp
    clear gt18
    show Tn _ _ 33 T σ16 [(0, .ref a), (1, .int (iI c)), (2, .int (iI r))] [] _
    refine tn_aload_n dX7_openCall_33 rfl 0 rfl ?_
    obtain ⟨hk25, hl26⟩ : AR T xb 1 9 9 := ar_of (wf_60 hw ha) hxb
    have hk25i : IA T xb := by unfold IA; omega
    refine tn_getR (ci := 7) (i := 5) (n := 60) (x := xb) dX7_openCall_34 rfl lay_7 (by decide) fl7_15 ha rfl rfl (rc_F F22 (Or.inl (by decide)) (by decide) (rc_o (by decide) (rc_o (by decide) (rc_o (by decide) (hxb))))) ?_
    refine tn_iload_n dX7_openCall_37 rfl 1 rfl ?_
    refine tn_iconst dX7_openCall_38 ?_
    refine tn_callSN (M := m_X7_openCall) (pc := 39) (ix := 61) (M' := m_X11_put) (As := [.ref xb, .int (iI c), .int (iI 0)]) (rest := []) dX7_openCall_39 ok_X11_put stt_X11_put nl7_61 np_X11_put rfl (Nat.le_of_ble_eq_true rfl) (Nat.le_of_ble_eq_true rfl) rfl (k_X11_put_x (d + 1) (T := T) (σ := σ16) (x := xb) (i := c) (y := 0) hk25i (by omega) (by omega) (by decide) w21 (nh_k hk25 (by unfold HT; omega)) vok_0) (fun r27 T29 σ28 gt30 hp => ?_)
    obtain ⟨rfl, rfl, w34, F35, f31, f32⟩ := hp
    clear gt30
    show Tn _ _ 42 T σ28 [(0, .ref a), (1, .int (iI c)), (2, .int (iI r))] [] _
    refine tn_aload_n dX7_openCall_42 rfl 0 rfl ?_
    obtain ⟨hl39, hk38a, hk38b⟩ := ex_at (wf_61 hw ha) hxc
    have hk38 : (T xc).1 = 14 := hk38a (by omega)
    clear hk38a hk38b
    have hk38i : IA T xc := by unfold IA; omega
    refine tn_getR (ci := 7) (i := 6) (n := 61) (x := xc) dX7_openCall_43 rfl lay_7 (by decide) fl7_18 ha rfl rfl (rc_F F35 (Or.inl (by decide)) (by decide) (rc_F F22 (Or.inl (by decide)) (by decide) (rc_o (by decide) (rc_o (by decide) (rc_o (by decide) (hxc)))))) ?_
    refine tn_iload_n dX7_openCall_46 rfl 1 rfl ?_
    refine tn_iconst dX7_openCall_47 ?_
    refine tn_callSN (M := m_X7_openCall) (pc := 48) (ix := 61) (M' := m_X11_put) (As := [.ref xc, .int (iI c), .int (iI 0)]) (rest := []) dX7_openCall_48 ok_X11_put stt_X11_put nl7_61 np_X11_put rfl (Nat.le_of_ble_eq_true rfl) (Nat.le_of_ble_eq_true rfl) rfl (k_X11_put_x (d + 1) (T := T) (σ := σ28) (x := xc) (i := c) (y := 0) hk38i (by omega) (by omega) (by decide) w34 (nh_k hk38 (by unfold HT; omega)) vok_0) (fun r40 T42 σ41 gt43 hp => ?_)
    obtain ⟨rfl, rfl, w47, F48, f44, f45⟩ := hp
    clear gt43
    show Tn _ _ 51 T σ41 [(0, .ref a), (1, .int (iI c)), (2, .int (iI r))] [] _
    refine tn_aload_n dX7_openCall_51 rfl 0 rfl ?_
    obtain ⟨hk51, hl52⟩ : AR T xd 1 108 108 := ar_of (wf_62 hw ha) hxd
    have hk51i : IA T xd := by unfold IA; omega
    refine tn_getR (ci := 7) (i := 7) (n := 62) (x := xd) dX7_openCall_52 rfl lay_7 (by decide) fl7_21 ha rfl rfl (rc_F F48 (Or.inl (by decide)) (by decide) (rc_F F35 (Or.inl (by decide)) (by decide) (rc_F F22 (Or.inl (by decide)) (by decide) (rc_o (by decide) (rc_o (by decide) (rc_o (by decide) (hxd))))))) ?_
    refine tn_iload_n dX7_openCall_55 rfl 1 rfl ?_
    refine tn_bipush dX7_openCall_56 (by decide) ?_
    refine tn_imul dX7_openCall_58 ?_
    refine tn_iconst dX7_openCall_59 ?_
    refine tn_callSN (M := m_X7_openCall) (pc := 60) (ix := 61) (M' := m_X11_put) (As := [.ref xd, .int (iI (c * 12)), .int (iI 0)]) (rest := []) dX7_openCall_60 ok_X11_put stt_X11_put nl7_61 np_X11_put rfl (Nat.le_of_ble_eq_true rfl) (Nat.le_of_ble_eq_true rfl) rfl (k_X11_put_x (d + 1) (T := T) (σ := σ41) (x := xd) (i := c * 12) (y := 0) hk51i (by omega) (by omega) (by decide) w47 (nh_k hk51 (by unfold HT; omega)) vok_0) (fun r53 T55 σ54 gt56 hp => ?_)
    obtain ⟨rfl, rfl, w60, F61, f57, f58⟩ := hp
    clear gt56
    show Tn _ _ 63 T σ54 [(0, .ref a), (1, .int (iI c)), (2, .int (iI r))] [] _
    refine tn_iload_n dX7_openCall_63 rfl 1 rfl ?_
    refine tn_sipush dX7_openCall_64 (by decide) ?_
    refine tn_imul dX7_openCall_67 ?_
    refine tn_istore_n (L' := [(3, .int (iI (c * 192))), (0, .ref a), (1, .int (iI c)), (2, .int (iI r))]) dX7_openCall_68 rfl (by decide) rfl ?_
    refine tn_iload_n dX7_openCall_69 rfl 0 rfl ?_
    refine tn_if_lt (tgt := 100) dX7_openCall_70 (by decide) ⟨by omega, by omega⟩ (fun h62 => absurd h62 (by omega)) (fun h62 => ?_)
    refine tn_iload_n dX7_openCall_73 rfl 0 rfl ?_
    refine tn_sipush dX7_openCall_74 (by decide) ?_
    refine tn_iadd dX7_openCall_77 ?_
    refine tn_aload_n dX7_openCall_78 rfl 1 rfl ?_
    obtain ⟨hk65, hl66⟩ : AR T xe 1 1728 1728 := ar_of (wf_63 hw ha) hxe
    have hk65i : IA T xe := by unfold IA; omega
    refine tn_getR (ci := 7) (i := 8) (n := 63) (x := xe) dX7_openCall_79 rfl lay_7 (by decide) fl7_24 ha rfl rfl (rc_F F61 (Or.inl (by decide)) (by decide) (rc_F F48 (Or.inl (by decide)) (by decide) (rc_F F35 (Or.inl (by decide)) (by decide) (rc_F F22 (Or.inl (by decide)) (by decide) (rc_o (by decide) (rc_o (by decide) (rc_o (by decide) (hxe)))))))) ?_
    refine tn_alenX dX7_openCall_82 (Or.inl hk65i) ?_
    refine tn_icmp_gt (tgt := 100) dX7_openCall_83 (by decide) ⟨by omega, by omega⟩ ⟨by omega, by omega⟩ (fun h67 => absurd h67 (by omega)) (fun h67 => ?_)
    refine tn_aload_n dX7_openCall_86 rfl 1 rfl ?_
    refine tn_getR (ci := 7) (i := 8) (n := 63) (x := xe) dX7_openCall_87 rfl lay_7 (by decide) fl7_24 ha rfl rfl (rc_F F61 (Or.inl (by decide)) (by decide) (rc_F F48 (Or.inl (by decide)) (by decide) (rc_F F35 (Or.inl (by decide)) (by decide) (rc_F F22 (Or.inl (by decide)) (by decide) (rc_o (by decide) (rc_o (by decide) (rc_o (by decide) (hxe)))))))) ?_
    refine tn_iload_n dX7_openCall_90 rfl 0 rfl ?_
    refine tn_iload_n dX7_openCall_91 rfl 0 rfl ?_
    refine tn_sipush dX7_openCall_92 (by decide) ?_
    refine tn_iadd dX7_openCall_95 ?_
    refine tn_iconst dX7_openCall_96 ?_
    refine tn_callS (M := m_X7_openCall) (pc := 97) (ix := 76) (M' := m_J7_fill_fda19) (As := [.ref xe, .int (iI (c * 192)), .int (iI ((c * 192) + 192)), .int (iI 0)]) (rest := []) dX7_openCall_97 ok_J7_fill_fda19 stt_J7_fill_fda19 ml7_76 np_J7_fill_fda19 rfl (Nat.le_of_ble_eq_true rfl) (Nat.le_of_ble_eq_true rfl) rfl (k_J7_fill_fda19_x (d) (T := T) (σ := σ54) (x := xe) (f := c * 192) (t := (c * 192) + 192) (y := 0) hk65i (by omega) (by omega) (by omega) (by decide) w60 (nh_k hk65 (by unfold HT; omega)) (by omega) (by omega)) (fun r68 T70 σ69 gt71 hp => ?_)
    obtain ⟨rfl, rfl, w75, F76, f72, f73⟩ := hp
    clear gt71
    show Tn _ _ 100 T σ69 [(3, .int (iI (c * 192))), (0, .ref a), (1, .int (iI c)), (2, .int (iI r))] [] _
    have q77 : σ69.2.1 57 a = c := rc_F F76 (Or.inl (by decide)) (by decide) (rc_F F61 (Or.inl (by decide)) (by decide) (rc_F F48 (Or.inl (by decide)) (by decide) (rc_F F35 (Or.inl (by decide)) (by decide) (rc_F F22 (Or.inl (by decide)) (by decide) (rc_o (by decide) (rc_o (by decide) (ra_eq)))))))
    have q78 : σ69.2.1 58 a = (σ.2.1 58 a) + 1 := rc_F F76 (Or.inl (by decide)) (by decide) (rc_F F61 (Or.inl (by decide)) (by decide) (rc_F F48 (Or.inl (by decide)) (by decide) (rc_F F35 (Or.inl (by decide)) (by decide) (rc_F F22 (Or.inl (by decide)) (by decide) (rc_o (by decide) (ra_eq))))))
    exact tn_vret rfl dX7_openCall_100 ⟨rfl, rfl, w75, ((((((((FrC.rfl.put (by decide) (by decide)).put (by decide) (by decide)).put (by decide) (by decide)).trans (FrC.sub F22 (by decide))).trans (FrC.sub F35 (by decide))).trans (FrC.sub F48 (by decide))).trans (FrC.sub F61 (by decide))).trans (FrC.sub F76 (by decide))), ((((((((CHX.rfl.fld (by simp) (by decide)).fld (by simp) (by decide)).fld (by simp) (by decide)).trans (CHX.sub (chx_put f19) (by simp) (by simp) (by simp))).trans (CHX.sub f31 (by simp) (by simp) (by simp))).trans (CHX.sub f44 (by simp) (by simp) (by simp))).trans (CHX.sub f57 (by simp) (by simp) (by simp))).trans (CHX.sub f72 (by simp) (by simp) (by simp))), by omega, by omega, ((((((((FA.rfl.put).put).put).trans (FA.of F22 (by decide))).trans (FA.of F35 (by decide))).trans (FA.of F48 (by decide))).trans (FA.of F61 (by decide))).trans (FA.of F76 (by decide)))⟩
  · show Tn _ _ 21 T (sA 58 a ((σ.2.1 58 a) + 1) (sA 57 a (c) σ)) [(0, .ref a), (1, .int (iI c)), (2, .int (iI r))] (vl true (xq9 : Int) :: [.ref a]) _
    rw [vl_ref rfl]
    have hk10o : OB T xq9 1 := hk10.1
    refine tn_putV (ci := 7) (i := 14) (n := 69) (r := true) (v := (xq9 : Int)) tyX7 tyX7_ok nmX7 dX7_openCall_21 rfl lay_7 (by decide) fl7_72 rfl (tyX7_ok 14 (by decide)) (vl_ref rfl).symm rfl rfl ha rfl rfl ?_
    refine tn_aload_n dX7_openCall_24 rfl 0 rfl ?_
    obtain ⟨hk81, hl82⟩ : AR T xa 15 9 9 := ar_of (wf_59 hw ha) hxa
    have hk81i : IA T xa := by unfold IA; omega
    refine tn_getR (ci := 7) (i := 4) (n := 59) (x := xa) dX7_openCall_25 rfl lay_7 (by decide) fl7_9 ha rfl rfl (rc_o (by decide) (rc_o (by decide) (rc_o (by decide) (hxa)))) ?_
    refine tn_iload_n dX7_openCall_28 rfl 1 rfl ?_
    refine tn_iload_n dX7_openCall_29 rfl 2 rfl ?_
    refine tn_callSN (M := m_X7_openCall) (pc := 30) (ix := 61) (M' := m_X11_put) (As := [.ref xa, .int (iI c), .int (iI r)]) (rest := []) dX7_openCall_30 ok_X11_put stt_X11_put nl7_61 np_X11_put rfl (Nat.le_of_ble_eq_true rfl) (Nat.le_of_ble_eq_true rfl) rfl (k_X11_put_15 (d + 1) (T := T) (σ := (sA 69 a ((xq9 : Int)) (sA 58 a ((σ.2.1 58 a) + 1) (sA 57 a (c) σ)))) (x := xa) (i := c) (y := r) hk81i (by omega) hk81 (by omega) (by omega) (((hw.put (by decide) (by decide) (fo_57 ⟨by omega, by omega⟩)).put (by decide) (by decide) (fo_58 (by omega))).put (by decide) (by decide) (fo_69 (Or.inr ⟨_, rfl, hk10.2.1, hk10.2.2⟩))) ) (fun r83 T85 σ84 gt86 hp => ?_)
    obtain ⟨rfl, rfl, w89, F90, f87⟩ := hp
    clear gt86
    show Tn _ _ 33 T σ84 [(0, .ref a), (1, .int (iI c)), (2, .int (iI r))] [] _
    refine tn_aload_n dX7_openCall_33 rfl 0 rfl ?_
    obtain ⟨hk93, hl94⟩ : AR T xb 1 9 9 := ar_of (wf_60 hw ha) hxb
    have hk93i : IA T xb := by unfold IA; omega
    refine tn_getR (ci := 7) (i := 5) (n := 60) (x := xb) dX7_openCall_34 rfl lay_7 (by decide) fl7_15 ha rfl rfl (rc_F F90 (Or.inl (by decide)) (by decide) (rc_o (by decide) (rc_o (by decide) (rc_o (by decide) (hxb))))) ?_
    refine tn_iload_n dX7_openCall_37 rfl 1 rfl ?_
    refine tn_iconst dX7_openCall_38 ?_
    refine tn_callSN (M := m_X7_openCall) (pc := 39) (ix := 61) (M' := m_X11_put) (As := [.ref xb, .int (iI c), .int (iI 0)]) (rest := []) dX7_openCall_39 ok_X11_put stt_X11_put nl7_61 np_X11_put rfl (Nat.le_of_ble_eq_true rfl) (Nat.le_of_ble_eq_true rfl) rfl (k_X11_put_x (d + 1) (T := T) (σ := σ84) (x := xb) (i := c) (y := 0) hk93i (by omega) (by omega) (by decide) w89 (nh_k hk93 (by unfold HT; omega)) vok_0) (fun r95 T97 σ96 gt98 hp => ?_)
    obtain ⟨rfl, rfl, w102, F103, f99, f100⟩ := hp
    clear gt98
    show Tn _ _ 42 T σ96 [(0, .ref a), (1, .int (iI c)), (2, .int (iI r))] [] _
    refine tn_aload_n dX7_openCall_42 rfl 0 rfl ?_
    obtain ⟨hl107, hk106a, hk106b⟩ := ex_at (wf_61 hw ha) hxc
    have hk106 : (T xc).1 = 14 := hk106a (by omega)
    clear hk106a hk106b
    have hk106i : IA T xc := by unfold IA; omega
    refine tn_getR (ci := 7) (i := 6) (n := 61) (x := xc) dX7_openCall_43 rfl lay_7 (by decide) fl7_18 ha rfl rfl (rc_F F103 (Or.inl (by decide)) (by decide) (rc_F F90 (Or.inl (by decide)) (by decide) (rc_o (by decide) (rc_o (by decide) (rc_o (by decide) (hxc)))))) ?_
    refine tn_iload_n dX7_openCall_46 rfl 1 rfl ?_
    refine tn_iconst dX7_openCall_47 ?_
    refine tn_callSN (M := m_X7_openCall) (pc := 48) (ix := 61) (M' := m_X11_put) (As := [.ref xc, .int (iI c), .int (iI 0)]) (rest := []) dX7_openCall_48 ok_X11_put stt_X11_put nl7_61 np_X11_put rfl (Nat.le_of_ble_eq_true rfl) (Nat.le_of_ble_eq_true rfl) rfl (k_X11_put_x (d + 1) (T := T) (σ := σ96) (x := xc) (i := c) (y := 0) hk106i (by omega) (by omega) (by decide) w102 (nh_k hk106 (by unfold HT; omega)) vok_0) (fun r108 T110 σ109 gt111 hp => ?_)
    obtain ⟨rfl, rfl, w115, F116, f112, f113⟩ := hp
    clear gt111
    show Tn _ _ 51 T σ109 [(0, .ref a), (1, .int (iI c)), (2, .int (iI r))] [] _
    refine tn_aload_n dX7_openCall_51 rfl 0 rfl ?_
    obtain ⟨hk119, hl120⟩ : AR T xd 1 108 108 := ar_of (wf_62 hw ha) hxd
    have hk119i : IA T xd := by unfold IA; omega
    refine tn_getR (ci := 7) (i := 7) (n := 62) (x := xd) dX7_openCall_52 rfl lay_7 (by decide) fl7_21 ha rfl rfl (rc_F F116 (Or.inl (by decide)) (by decide) (rc_F F103 (Or.inl (by decide)) (by decide) (rc_F F90 (Or.inl (by decide)) (by decide) (rc_o (by decide) (rc_o (by decide) (rc_o (by decide) (hxd))))))) ?_
    refine tn_iload_n dX7_openCall_55 rfl 1 rfl ?_
    refine tn_bipush dX7_openCall_56 (by decide) ?_
    refine tn_imul dX7_openCall_58 ?_
    refine tn_iconst dX7_openCall_59 ?_
    refine tn_callSN (M := m_X7_openCall) (pc := 60) (ix := 61) (M' := m_X11_put) (As := [.ref xd, .int (iI (c * 12)), .int (iI 0)]) (rest := []) dX7_openCall_60 ok_X11_put stt_X11_put nl7_61 np_X11_put rfl (Nat.le_of_ble_eq_true rfl) (Nat.le_of_ble_eq_true rfl) rfl (k_X11_put_x (d + 1) (T := T) (σ := σ109) (x := xd) (i := c * 12) (y := 0) hk119i (by omega) (by omega) (by decide) w115 (nh_k hk119 (by unfold HT; omega)) vok_0) (fun r121 T123 σ122 gt124 hp => ?_)
    obtain ⟨rfl, rfl, w128, F129, f125, f126⟩ := hp
    clear gt124
    show Tn _ _ 63 T σ122 [(0, .ref a), (1, .int (iI c)), (2, .int (iI r))] [] _
    refine tn_iload_n dX7_openCall_63 rfl 1 rfl ?_
    refine tn_sipush dX7_openCall_64 (by decide) ?_
    refine tn_imul dX7_openCall_67 ?_
    refine tn_istore_n (L' := [(3, .int (iI (c * 192))), (0, .ref a), (1, .int (iI c)), (2, .int (iI r))]) dX7_openCall_68 rfl (by decide) rfl ?_
    refine tn_iload_n dX7_openCall_69 rfl 0 rfl ?_
    refine tn_if_lt (tgt := 100) dX7_openCall_70 (by decide) ⟨by omega, by omega⟩ (fun h130 => absurd h130 (by omega)) (fun h130 => ?_)
    refine tn_iload_n dX7_openCall_73 rfl 0 rfl ?_
    refine tn_sipush dX7_openCall_74 (by decide) ?_
    refine tn_iadd dX7_openCall_77 ?_
    refine tn_aload_n dX7_openCall_78 rfl 1 rfl ?_
    obtain ⟨hk133, hl134⟩ : AR T xe 1 1728 1728 := ar_of (wf_63 hw ha) hxe
    have hk133i : IA T xe := by unfold IA; omega
    refine tn_getR (ci := 7) (i := 8) (n := 63) (x := xe) dX7_openCall_79 rfl lay_7 (by decide) fl7_24 ha rfl rfl (rc_F F129 (Or.inl (by decide)) (by decide) (rc_F F116 (Or.inl (by decide)) (by decide) (rc_F F103 (Or.inl (by decide)) (by decide) (rc_F F90 (Or.inl (by decide)) (by decide) (rc_o (by decide) (rc_o (by decide) (rc_o (by decide) (hxe)))))))) ?_
    refine tn_alenX dX7_openCall_82 (Or.inl hk133i) ?_
    refine tn_icmp_gt (tgt := 100) dX7_openCall_83 (by decide) ⟨by omega, by omega⟩ ⟨by omega, by omega⟩ (fun h135 => absurd h135 (by omega)) (fun h135 => ?_)
    refine tn_aload_n dX7_openCall_86 rfl 1 rfl ?_
    refine tn_getR (ci := 7) (i := 8) (n := 63) (x := xe) dX7_openCall_87 rfl lay_7 (by decide) fl7_24 ha rfl rfl (rc_F F129 (Or.inl (by decide)) (by decide) (rc_F F116 (Or.inl (by decide)) (by decide) (rc_F F103 (Or.inl (by decide)) (by decide) (rc_F F90 (Or.inl (by decide)) (by decide) (rc_o (by decide) (rc_o (by decide) (rc_o (by decide) (hxe)))))))) ?_
    refine tn_iload_n dX7_openCall_90 rfl 0 rfl ?_
    refine tn_iload_n dX7_openCall_91 rfl 0 rfl ?_
    refine tn_sipush dX7_openCall_92 (by decide) ?_
    refine tn_iadd dX7_openCall_95 ?_
    refine tn_iconst dX7_openCall_96 ?_
    refine tn_callS (M := m_X7_openCall) (pc := 97) (ix := 76) (M' := m_J7_fill_fda19) (As := [.ref xe, .int (iI (c * 192)), .int (iI ((c * 192) + 192)), .int (iI 0)]) (rest := []) dX7_openCall_97 ok_J7_fill_fda19 stt_J7_fill_fda19 ml7_76 np_J7_fill_fda19 rfl (Nat.le_of_ble_eq_true rfl) (Nat.le_of_ble_eq_true rfl) rfl (k_J7_fill_fda19_x (d) (T := T) (σ := σ122) (x := xe) (f := c * 192) (t := (c * 192) + 192) (y := 0) hk133i (by omega) (by omega) (by omega) (by decide) w128 (nh_k hk133 (by unfold HT; omega)) (by omega) (by omega)) (fun r136 T138 σ137 gt139 hp => ?_)
    obtain ⟨rfl, rfl, w143, F144, f140, f141⟩ := hp
    clear gt139
    show Tn _ _ 100 T σ137 [(3, .int (iI (c * 192))), (0, .ref a), (1, .int (iI c)), (2, .int (iI r))] [] _
    have q145 : σ137.2.1 57 a = c := rc_F F144 (Or.inl (by decide)) (by decide) (rc_F F129 (Or.inl (by decide)) (by decide) (rc_F F116 (Or.inl (by decide)) (by decide) (rc_F F103 (Or.inl (by decide)) (by decide) (rc_F F90 (Or.inl (by decide)) (by decide) (rc_o (by decide) (rc_o (by decide) (ra_eq)))))))
    have q146 : σ137.2.1 58 a = (σ.2.1 58 a) + 1 := rc_F F144 (Or.inl (by decide)) (by decide) (rc_F F129 (Or.inl (by decide)) (by decide) (rc_F F116 (Or.inl (by decide)) (by decide) (rc_F F103 (Or.inl (by decide)) (by decide) (rc_F F90 (Or.inl (by decide)) (by decide) (rc_o (by decide) (ra_eq))))))
    exact tn_vret rfl dX7_openCall_100 ⟨rfl, rfl, w143, ((((((((FrC.rfl.put (by decide) (by decide)).put (by decide) (by decide)).put (by decide) (by decide)).trans (FrC.sub F90 (by decide))).trans (FrC.sub F103 (by decide))).trans (FrC.sub F116 (by decide))).trans (FrC.sub F129 (by decide))).trans (FrC.sub F144 (by decide))), ((((((((CHX.rfl.fld (by simp) (by decide)).fld (by simp) (by decide)).fld (by simp) (by decide)).trans (CHX.sub (chx_put f87) (by simp) (by simp) (by simp))).trans (CHX.sub f99 (by simp) (by simp) (by simp))).trans (CHX.sub f112 (by simp) (by simp) (by simp))).trans (CHX.sub f125 (by simp) (by simp) (by simp))).trans (CHX.sub f140 (by simp) (by simp) (by simp))), by omega, by omega, ((((((((FA.rfl.put).put).put).trans (FA.of F90 (by decide))).trans (FA.of F103 (by decide))).trans (FA.of F116 (by decide))).trans (FA.of F129 (by decide))).trans (FA.of F144 (by decide)))⟩
end
